/** Promise 13: decode; what is read, passed over, MALFORMED, TOO GREAT and LACKING. */
final class DecodeTest {
    private static final Check CHECK = new Check("DecodeTest");
    private static final int PLAIN = 0;
    private static final int DENSE = 1;

    public static void main(String[] args) {
        noSuchStructOrForm();
        everyTypePlain();
        everyTypeDense();
        whatComesBeforeGivesWay();
        passedOverPlain();
        passedOverDense();
        endsAndRests();
        wireTypes();
        flags();
        lengthsAndSizes();
        varints();
        zigzagsThatDoNotFit();
        idsOfTheDenseForm();
        depths();
        tooGreat();
        lacking();
        whatIsFoundFirst();
        nothingChangesOtherwise();
        CHECK.end();
    }

    private static void due(String what, int due, Run x, int form, int... bytes) {
        CHECK.same(what, Use.decode(x, 0, form, bytes), due);
    }

    private static Run with(String type) {
        return Use.schema("struct", "field 1 " + type);
    }

    private static void noSuchStructOrForm() {
        Run x = with("int");
        Use.feed(x, 0);
        CHECK.same("struct -1", x.decode(-1, 0), -1);
        CHECK.same("struct 1", x.decode(1, 0), -1);
        CHECK.same("form -1", x.decode(0, -1), -1);
        CHECK.same("form 2", x.decode(0, 2), -1);
        CHECK.same("no root of these", x.count(3), 0);
        x.clear();
        CHECK.same("no struct before malformed", x.decode(1, 0), -1);
        CHECK.same("no form before malformed", x.decode(0, 2), -1);
    }

    private static void readsAs(String type, String values, int form, int... bytes) {
        Run x = with(type);
        due(type + " " + values, 0, x, form, bytes);
        CHECK.same(type, Use.values(x, 1), values);
        CHECK.same("path", x.count(3), 1);
        CHECK.same("the bytes stay", x.count(0), bytes.length);
    }

    private static void everyTypePlain() {
        readsAs("flag", "0", PLAIN, 2, 0, 1, 0, 0);
        readsAs("flag", "1", PLAIN, 2, 0, 1, 1, 0);
        readsAs("byte", "-1", PLAIN, 3, 0, 1, 255, 0);
        readsAs("byte", "127", PLAIN, 3, 0, 1, 127, 0);
        readsAs("short", "-32768", PLAIN, 6, 0, 1, 128, 0, 0);
        readsAs("short", "258", PLAIN, 6, 0, 1, 1, 2, 0);
        readsAs("int", "16909060", PLAIN, 8, 0, 1, 1, 2, 3, 4, 0);
        readsAs("int", "-2", PLAIN, 8, 0, 1, 255, 255, 255, 254, 0);
        readsAs("long", "72623859790382856", PLAIN, 10, 0, 1, 1, 2, 3, 4, 5, 6, 7, 8, 0);
        readsAs("long", "-1", PLAIN, 10, 0, 1, 255, 255, 255, 255, 255, 255, 255, 255, 0);
        readsAs("list flag", "1 0", PLAIN, 15, 0, 1, 2, 0, 0, 0, 2, 1, 0, 0);
        readsAs("list short", "-1 1", PLAIN, 15, 0, 1, 6, 0, 0, 0, 2, 255, 255, 0, 1, 0);
        readsAs("list int", "", PLAIN, 15, 0, 1, 8, 0, 0, 0, 0, 0);
        readsAs("text", "2", PLAIN, 11, 0, 1, 0, 0, 0, 2, 104, 105, 0);
        Run x = with("list text");
        due("texts", 0, x, PLAIN, 15, 0, 1, 11, 0, 0, 0, 2, 0, 0, 0, 1, 32, 0, 0, 0, 0, 0);
        CHECK.same("texts", Use.texts(x, 1), "/ /");
    }

    private static void everyTypeDense() {
        readsAs("flag", "1", DENSE, 17, 0);
        readsAs("flag", "0", DENSE, 18, 0);
        readsAs("byte", "-128", DENSE, 19, 128, 0);
        readsAs("short", "300", DENSE, 20, 216, 4, 0);
        readsAs("int", "-2147483648", DENSE, 21, 255, 255, 255, 255, 15, 0);
        readsAs("long", "-1", DENSE, 22, 1, 0);
        readsAs("list flag", "1 0", DENSE, 25, 33, 1, 2, 0);
        readsAs("list flag", "1 0", DENSE, 25, 34, 1, 2, 0);
        readsAs("list byte", "-1", DENSE, 25, 19, 255, 0);
        readsAs("list long", "1 2 3 4 5", DENSE, 25, 86, 2, 4, 6, 8, 10, 0);
        Run x = with("list text");
        due("texts", 0, x, DENSE, 25, 40, 3, 97, 126, 32, 0, 0);
        CHECK.same("texts", Use.texts(x, 1), "/a~ /");
        Run tree = Use.schema("struct", "field 1 byte", "field 2 list struct 0");
        due("records", 0, tree, DENSE, 19, 1, 25, 44, 19, 2, 0, 41, 28, 19, 3, 0, 0, 0);
        CHECK.same("two records", tree.size(2), 2);
        tree.go(2, 1);
        tree.go(2, 0);
        CHECK.same("the inmost", tree.value(1, 0), 3);
    }

    private static void whatComesBeforeGivesWay() {
        readsAs("byte", "2", PLAIN, 3, 0, 1, 1, 3, 0, 1, 2, 0);
        readsAs("byte", "2", DENSE, 19, 1, 3, 2, 2, 0);
        readsAs("list byte", "3", DENSE, 25, 35, 1, 2, 9, 2, 19, 3, 0);
        readsAs("list byte", "", DENSE, 25, 35, 1, 2, 9, 2, 3, 0);
        // What is passed over takes nothing away.
        readsAs("byte", "1", PLAIN, 3, 0, 1, 1, 6, 0, 1, 0, 2, 0);
        readsAs("list byte", "1 2", DENSE, 25, 35, 1, 2, 9, 2, 20, 6, 0);
        Run x = Use.schema("struct", "field 1 byte", "field 2 struct 0");
        due("a second record", 0, x, DENSE, 28 + 16, 19, 7, 0, 12, 4, 0, 0);
        x.go(2, 0);
        CHECK.same("is a new one", x.size(1), 0);
    }

    private static void passedOverPlain() {
        int[][] fields = {
            {2, 0, 9, 1}, {3, 0, 9, 200}, {6, 0, 9, 1, 2}, {8, 0, 9, 1, 2, 3, 4},
            {10, 0, 9, 1, 2, 3, 4, 5, 6, 7, 8}, {11, 0, 9, 0, 0, 0, 8, 1, 2, 3, 4, 5, 6, 7, 8},
            {12, 0, 9, 3, 0, 1, 5, 0}, {15, 0, 9, 8, 0, 0, 0, 1, 0, 0, 0, 0},
            {15, 0, 9, 12, 0, 0, 0, 2, 0, 3, 0, 1, 1, 0}, {15, 0, 9, 11, 0, 0, 0, 1, 0, 0, 0, 1, 7},
            {15, 0, 9, 15, 0, 0, 0, 2, 2, 0, 0, 0, 0, 3, 0, 0, 0, 2, 9, 9},
            {15, 0, 9, 3, 0, 0, 0, 7, 1, 2, 3, 4, 5, 6, 7}, {3, 255, 255, 1}, {3, 0, 0, 1},
            {2, 0, 1, 0}, {8, 0, 1, 0, 0, 0, 1}, {15, 0, 1, 3, 0, 0, 0, 1, 1}, {12, 0, 1, 0}
        };
        for (int[] field : fields) {
            passedOver(PLAIN, new int[] {3, 0, 1, 5}, field);
        }
    }

    private static void passedOverDense() {
        int[][] fields = {
            {17}, {18}, {19, 200}, {20, 128, 1}, {21, 255, 255, 255, 255, 127}, {22, 1},
            {24, 8, 1, 2, 3, 4, 5, 6, 7, 8}, {25, 3}, {25, 0xF1, 1, 2, 1, 2, 1, 2, 1, 2, 1, 2, 1,
                2, 1, 2, 1}, {25, 0x16, 255, 1}, {25, 0x28, 1, 7, 0}, {25, 0x29, 0x13, 9, 0x02},
            {25, 0x2C, 19, 5, 0, 0}, {28, 19, 5, 0}, {20, 128, 128, 128, 1},
            {4, 2, 3}, {9, 2, 3}, {1, 2}, {12, 2, 0}, {3, 0, 7}, {3, 1, 7}, {3, 255, 255, 3, 7}
        };
        for (int[] field : fields) {
            passedOver(DENSE, new int[] {19, 5}, field);
        }
    }

    /** Field 1, a byte, is 5; the field behind it is passed over and changes nothing. */
    private static void passedOver(int form, int[] known, int[] other) {
        Run x = with("byte");
        int[] all = java.util.Arrays.copyOf(known, known.length + other.length + 1);
        System.arraycopy(other, 0, all, known.length, other.length);
        String what = "form " + form + " " + java.util.Arrays.toString(other);
        due(what, 0, x, form, all);
        CHECK.same(what, Use.values(x, 1), "5");
        due(what + " without an end", -2, x, form, java.util.Arrays.copyOf(all, all.length - 1));
        due(what + " cut", -2, x, form, java.util.Arrays.copyOf(all, all.length - 2));
    }

    private static void endsAndRests() {
        Run x = with("int");
        due("no bytes", -2, x, PLAIN);
        due("no bytes", -2, x, DENSE);
        due("the end alone", 0, x, PLAIN, 0);
        due("the end alone", 0, x, DENSE, 0);
        due("one left", -2, x, PLAIN, 0, 0);
        due("one left", -2, x, DENSE, 0, 1);
        int[] plain = {8, 0, 1, 1, 2, 3, 4, 0};
        for (int n = 0; n < plain.length; n++) {
            due("first " + n, -2, x, PLAIN, java.util.Arrays.copyOf(plain, n));
        }
        int[] flags = new int[120];
        java.util.Arrays.fill(flags, 17);
        due("120 flags and no end", -2, x, DENSE, flags);
        flags[119] = 0;
        due("119 flags and the end", 0, x, DENSE, flags);
    }

    private static void wireTypes() {
        String plain = " 2 3 6 8 10 11 12 15 ";
        for (int wire = 1; wire < 256; wire++) {
            boolean is = plain.contains(" " + wire + " ");
            due("plain list of " + wire, is ? 0 : -2, with("list int"), PLAIN,
                    15, 0, 1, wire, 0, 0, 0, 0, 0);
            if (!is) {
                due("plain field " + wire, -2, with("list int"), PLAIN,
                        wire, 0, 9, 0, 0, 0, 0, 0, 0, 0, 0, 0);
            }
        }
        due("plain list of 0", -2, with("list int"), PLAIN, 15, 0, 1, 0, 0, 0, 0, 0, 0);
        for (int wire : new int[] {0, 7, 10, 11, 13, 14, 15}) {
            due("dense field " + wire, -2, with("list int"), DENSE, 16 + wire, 0);
            due("dense empty list of " + wire, -2, with("list int"), DENSE, 25, wire, 0);
            due("dense list of " + wire, -2, with("list int"), DENSE, 25, 16 + wire, 0, 0);
            due("dense list in a list", -2, with("list int"), DENSE, 25, 0x19, wire, 0);
            if (wire > 0) {
                due("dense field " + wire + " with an id", -2, with("list int"), DENSE, wire, 2, 0);
            }
        }
        for (int wire : new int[] {1, 2, 3, 4, 5, 6, 8, 9, 12}) {
            due("dense empty list of " + wire, 0, with("list int"), DENSE, 25, wire, 0);
        }
    }

    private static void flags() {
        Run x = with("flag");
        due("a plain flag 2", -2, x, PLAIN, 2, 0, 1, 2, 0);
        due("a plain flag 255", -2, x, PLAIN, 2, 0, 1, 255, 0);
        due("also when passed over", -2, x, PLAIN, 2, 0, 7, 2, 0);
        due("also in a list", -2, x, PLAIN, 15, 0, 7, 2, 0, 0, 0, 1, 2, 0);
        Run list = with("list flag");
        due("in a list", -2, list, PLAIN, 15, 0, 1, 2, 0, 0, 0, 1, 2, 0);
        due("a dense 0", -2, list, DENSE, 25, 17, 0, 0);
        due("a dense 3", -2, list, DENSE, 25, 17, 3, 0);
        due("a dense 0 passed over", -2, list, DENSE, 41, 17, 0, 0);
        due("a dense 3 passed over", -2, list, DENSE, 41, 18, 3, 0);
        due("dense 2 and 1", 0, list, DENSE, 25, 33, 2, 1, 0);
        CHECK.same("dense 2 is 0", Use.values(list, 1), "0 1");
        due("in a list that is too great", -2, list, DENSE, 25, 0x61, 1, 1, 1, 1, 1, 3, 0);
    }

    private static void lengthsAndSizes() {
        Run x = with("text");
        due("length -1", -2, x, PLAIN, 11, 0, 1, 255, 255, 255, 255, 0);
        due("length 121", -2, x, PLAIN, 11, 0, 1, 0, 0, 0, 121, 0);
        due("length 65536", -2, x, PLAIN, 11, 0, 1, 0, 1, 0, 0, 0);
        due("length 121 passed over", -2, x, PLAIN, 11, 0, 9, 0, 0, 0, 121, 0);
        due("dense length 121", -2, x, DENSE, 24, 121, 0);
        due("dense length of 64 bits", -2, x, DENSE,
                24, 255, 255, 255, 255, 255, 255, 255, 255, 255, 1, 0);
        due("dense length 2^32", -2, x, DENSE, 24, 128, 128, 128, 128, 16, 0);
        due("size -1", -2, x, PLAIN, 15, 0, 1, 3, 255, 255, 255, 255, 0);
        due("size 121", -2, x, PLAIN, 15, 0, 1, 3, 0, 0, 0, 121, 0);
        due("size 2^24", -2, x, PLAIN, 15, 0, 1, 3, 1, 0, 0, 0, 0);
        int[] most = new int[120];
        System.arraycopy(new int[] {11, 0, 9, 0, 0, 0, 112}, 0, most, 0, 7);
        due("a text of 112 passed over", 0, x, PLAIN, most);
        most[6] = 113;
        due("a text of 113 leaves no end", -2, x, PLAIN, most);
    }

    private static void varints() {
        readsAs("int", "1", DENSE, 21, 130, 0, 0);
        readsAs("int", "1", DENSE, 21, 130, 128, 128, 128, 128, 128, 128, 128, 128, 0, 0);
        readsAs("text", "1", DENSE, 24, 129, 128, 0, 97, 0);
        readsAs("byte", "5", DENSE, 3, 130, 128, 0, 5, 0);
        // The tenth byte has one bit that counts; the others of it are beyond 64.
        readsAs("long", "1", DENSE, 22, 130, 128, 128, 128, 128, 128, 128, 128, 128, 126, 0);
        readsAs("long", Long.toString(Long.MIN_VALUE), DENSE,
                22, 255, 255, 255, 255, 255, 255, 255, 255, 255, 127, 0);
        readsAs("text", "0", DENSE, 24, 128, 128, 128, 128, 128, 128, 128, 128, 128, 2, 0);
        Run x = with("long");
        due("eleven bytes", -2, x, DENSE,
                22, 128, 128, 128, 128, 128, 128, 128, 128, 128, 128, 0, 0);
        due("eleven bytes passed over", -2, x, DENSE,
                38, 128, 128, 128, 128, 128, 128, 128, 128, 128, 128, 0, 0);
        due("ten bytes that do not end it", -2, x, DENSE,
                22, 128, 128, 128, 128, 128, 128, 128, 128, 128, 128, 0);
        due("no end of it", -2, x, DENSE, 22, 128, 128);
        due("no end of a length", -2, with("text"), DENSE, 24, 128);
    }

    private static void zigzagsThatDoNotFit() {
        readsAs("short", "32767", DENSE, 20, 254, 255, 3, 0);
        readsAs("short", "-32768", DENSE, 20, 255, 255, 3, 0);
        readsAs("int", "2147483647", DENSE, 21, 254, 255, 255, 255, 15, 0);
        Run s = with("short");
        due("short 32768", -2, s, DENSE, 20, 128, 128, 4, 0);
        due("short -32769", -2, s, DENSE, 20, 129, 128, 4, 0);
        due("short 32768 passed over", 0, s, DENSE, 36, 128, 128, 4, 0);
        due("short 2^40 passed over", 0, s, DENSE, 36, 128, 128, 128, 128, 128, 128, 64, 0);
        Run i = with("int");
        due("int 2^31", -2, i, DENSE, 21, 128, 128, 128, 128, 16, 0);
        due("int -2^31 - 1", -2, i, DENSE, 21, 129, 128, 128, 128, 16, 0);
        due("int 2^32", -2, i, DENSE, 21, 128, 128, 128, 128, 32, 0);
        Run list = with("list short");
        due("in a list", -2, list, DENSE, 25, 36, 0, 128, 128, 4, 0);
        due("in a list of others", 0, list, DENSE, 25, 37, 0, 128, 128, 128, 128, 16, 0);
        due("in a list that is too great", -3, list, DENSE,
                25, 0x64, 0, 0, 0, 0, 0, 128, 128, 4, 0);
    }

    private static void idsOfTheDenseForm() {
        Run x = with("byte");
        due("id 32767", 0, x, DENSE, 3, 254, 255, 3, 7, 0);
        due("id -32768", 0, x, DENSE, 3, 255, 255, 3, 7, 0);
        due("id 32768", -2, x, DENSE, 3, 128, 128, 4, 7, 0);
        due("id -32769", -2, x, DENSE, 3, 129, 128, 4, 7, 0);
        due("id 2^32 + 1", -2, x, DENSE, 3, 130, 128, 128, 128, 32, 7, 0);
        due("a step beyond 32767", 0, x, DENSE, 3, 254, 255, 3, 7, 0xF3, 8, 0);
        readsAs("byte", "8", DENSE, 3, 3, 7, 0x33, 8, 0);
        due("an id in what is passed over", -2, x, DENSE, 44, 3, 128, 128, 4, 7, 0, 0);
        Run far = Use.schema("struct", "field 40 byte", "field 41 byte", "field 9 byte",
                "field 1 struct 0");
        due("ids in any order", 0, far, DENSE, 3, 80, 1, 3, 18, 2, 3, 82, 3, 0);
        CHECK.same("40", far.value(40, 0), 1);
        CHECK.same("41", far.value(41, 0), 3);
        CHECK.same("9", far.value(9, 0), 2);
        due("a record counts from 0 on", 0, far, DENSE, 28, 0x93, 4, 0, 0x83, 5, 0);
        CHECK.same("9 outside", far.value(9, 0), 5);
        far.go(1, 0);
        CHECK.same("9 inside", far.value(9, 0), 4);
    }

    private static void depths() {
        Run x = Use.schema("struct", "field 1 struct 0", "field 2 list struct 0",
                "field 3 list int");
        due("6 records", 0, x, DENSE, 28, 28, 28, 28, 28, 0, 0, 0, 0, 0, 0);
        due("7 records", -2, x, DENSE, 28, 28, 28, 28, 28, 28, 0, 0, 0, 0, 0, 0, 0);
        due("7 records, one end too few", -2, x, DENSE, 28, 28, 28, 28, 28, 28, 0, 0, 0, 0, 0, 0);
        due("7 records passed over", -2, x, DENSE, 92, 28, 28, 28, 28, 28, 0, 0, 0, 0, 0, 0, 0);
        due("6 records passed over", 0, x, DENSE, 92, 28, 28, 28, 28, 0, 0, 0, 0, 0, 0);
        due("6 by lists", 0, x, DENSE,
                41, 28, 41, 28, 41, 28, 41, 28, 41, 28, 0, 0, 0, 0, 0, 0);
        due("7 by lists", -2, x, DENSE,
                41, 28, 41, 28, 41, 28, 41, 28, 41, 28, 41, 28, 0, 0, 0, 0, 0, 0, 0);
        due("a list in the sixth", 0, x, DENSE,
                28, 28, 28, 28, 28, 57, 21, 2, 0, 0, 0, 0, 0, 0);
        due("a list of lists, 6 deep", 0, x, DENSE, 89, 25, 25, 25, 25, 25, 5, 0);
        due("a list of lists, 7 deep", -2, x, DENSE, 89, 25, 25, 25, 25, 25, 25, 5, 0);
        due("a list that would be the seventh, but is not", 0, x, DENSE,
                89, 25, 25, 25, 25, 25, 9, 0);
        due("a record in lists, 6 deep", 0, x, DENSE, 89, 25, 25, 25, 25, 28, 0, 0);
        due("a record in lists, 7 deep", -2, x, DENSE, 89, 25, 25, 25, 25, 25, 28, 0, 0);
        due("a list in a list in the sixth", -2, x, DENSE,
                28, 28, 28, 28, 28, 89, 25, 5, 0, 0, 0, 0, 0, 0);
        Run p = Use.schema("struct", "field 1 struct 0");
        due("plain, 6", 0, p, PLAIN,
                12, 0, 1, 12, 0, 1, 12, 0, 1, 12, 0, 1, 12, 0, 1, 0, 0, 0, 0, 0, 0);
        due("plain, 7", -2, p, PLAIN,
                12, 0, 1, 12, 0, 1, 12, 0, 1, 12, 0, 1, 12, 0, 1, 12, 0, 1, 0, 0, 0, 0, 0, 0, 0);
    }

    private static void tooGreat() {
        Run x = with("text");
        due("six", 0, x, DENSE, 24, 6, 97, 97, 97, 97, 97, 97, 0);
        due("seven", -3, x, DENSE, 24, 7, 97, 97, 97, 97, 97, 97, 97, 0);
        due("seven plain", -3, x, PLAIN, 11, 0, 1, 0, 0, 0, 7, 97, 97, 97, 97, 97, 97, 97, 0);
        due("32 and 126", 0, x, DENSE, 24, 2, 32, 126, 0);
        for (int c : new int[] {0, 31, 127, 128, 255}) {
            due("a character " + c, -3, x, DENSE, 24, 2, 97, c, 0);
            due("a character " + c + " passed over", 0, x, DENSE, 40, 2, 97, c, 0);
        }
        Run texts = with("list text");
        due("in a list", -3, texts, DENSE, 25, 40, 1, 97, 1, 7, 0);
        Run list = with("list byte");
        due("five", 0, list, DENSE, 25, 0x53, 1, 2, 3, 4, 5, 0);
        due("six", -3, list, DENSE, 25, 0x63, 1, 2, 3, 4, 5, 6, 0);
        due("six plain", -3, list, PLAIN, 15, 0, 1, 3, 0, 0, 0, 6, 1, 2, 3, 4, 5, 6, 0);
        due("six of others", 0, list, DENSE, 25, 0x61, 1, 2, 1, 2, 1, 2, 0);
        due("even when it gives way", -3, x, DENSE, 24, 7, 97, 97, 97, 97, 97, 97, 97, 8, 2, 0, 0);
    }

    private static void lacking() {
        Run x = Use.schema("struct", "field 1 byte required", "field 2 struct 0",
                "field 3 list struct 0");
        due("the root lacks", -4, x, PLAIN, 0);
        due("it has it", 0, x, DENSE, 19, 1, 0);
        due("of another type", -4, x, DENSE, 20, 1, 0);
        due("the inner lacks", -4, x, DENSE, 19, 1, 28, 0, 0);
        due("the inner has it", 0, x, DENSE, 19, 1, 28, 19, 1, 0, 0);
        due("an element lacks", -4, x, DENSE, 19, 1, 41, 44, 19, 1, 0, 0, 0);
        due("a record passed over lacks nothing", 0, x, DENSE, 19, 1, 60, 0, 0);
        due("even when it gives way", -4, x, DENSE, 19, 1, 28, 0, 12, 4, 19, 1, 0, 0);
        Run list = with("list int required");
        due("an empty list is a value", 0, list, DENSE, 25, 5, 0);
        due("but not of others", -4, list, DENSE, 25, 6, 0);
    }

    private static void whatIsFoundFirst() {
        Run x = Use.schema("struct", "field 1 byte required", "struct",
                "field 1 struct 0", "field 2 list byte", "field 3 text required",
                "field 4 list struct 0");
        Use.feed(x, 28, 0, 25, 0x63, 1, 2, 3, 4, 5, 6, 24, 0, 0);
        CHECK.same("the inner lacks, then a list is too great", x.decode(1, DENSE), -4);
        Use.feed(x, 41, 0x63, 1, 2, 3, 4, 5, 6, 12, 2, 0, 8, 6, 0, 0);
        CHECK.same("a list is too great, then the inner lacks", x.decode(1, DENSE), -3);
        Use.feed(x, 41, 0x63, 1, 2, 3, 4, 5, 6, 0);
        CHECK.same("too great, then the root lacks at its end", x.decode(1, DENSE), -3);
        Use.feed(x, 0x49, 0x6C, 0, 0, 0, 0, 0, 0, 0);
        CHECK.same("nothing in what is too great lacks", x.decode(1, DENSE), -3);
        Use.feed(x, 41, 0x63, 1, 2, 3, 4, 5, 6, 23, 0);
        CHECK.same("malformed behind too great", x.decode(1, DENSE), -2);
        Use.feed(x, 28, 0, 0, 0);
        CHECK.same("malformed behind lacking", x.decode(1, DENSE), -2);
        Use.feed(x, 41, 0x63, 1, 2, 3, 4, 5, 6, 0, 1);
        CHECK.same("some left behind too great", x.decode(1, DENSE), -2);
        Use.feed(x, 28, 0, 36, 255, 255, 255, 255, 1, 0);
        CHECK.same("what is known stays unknown behind lacking", x.decode(1, DENSE), -4);
    }

    private static void nothingChangesOtherwise() {
        Run x = Use.schema("struct", "field 1 byte required", "field 2 struct 0",
                "field 3 text");
        x.begin(0);
        x.number(1, 1);
        x.open(2);
        x.number(1, 2);
        int[][] rows = {{0, 0}, {24 + 16 * 2, 1, 7, 0}, {0}};
        int[] outcomes = {-2, -3, -4};
        for (int i = 0; i < rows.length; i++) {
            due("outcome", outcomes[i], x, DENSE, rows[i]);
            CHECK.same("path", x.count(3), 2);
            CHECK.same("at hand", x.value(1, 0), 2);
            CHECK.same("bytes", x.count(0), rows[i].length);
        }
        CHECK.same("no struct", x.decode(7, 0), -1);
        CHECK.same("path", x.count(3), 2);
        due("read", 0, x, DENSE, 19, 9, 0);
        CHECK.same("path of what was read", x.count(3), 1);
        CHECK.same("its value", x.value(1, 0), 9);
        CHECK.same("and no other", x.size(2), 0);
        CHECK.same("it can be read again", x.decode(0, DENSE), 0);
        CHECK.same("with the same value", x.value(1, 0), 9);
    }
}
