/** Promise 10: encode, and the bytes of both forms. */
final class EncodeTest {
    private static final Check CHECK = new Check("EncodeTest");

    public static void main(String[] args) {
        everyTypeAlone();
        everyListAlone();
        fieldsInTheOrderOfTheirIds();
        headsOfTheDenseForm();
        zigzags();
        recordsInRecords();
        emptyListsThatWereRead();
        sixDeepThatWereRead();
        theRootIsWrittenNotWhatIsAtHand();
        refusals();
        whatIsLacking();
        atMost120Bytes();
        CHECK.end();
    }

    private static void encoded(String what, Run x, String plain, String dense) {
        CHECK.same(what + ", how many plain", x.encode(0), plain.split(" ").length);
        CHECK.same(what + ", plain", Use.bytes(x), plain);
        CHECK.same(what + ", how many dense", x.encode(1), dense.split(" ").length);
        CHECK.same(what + ", dense", Use.bytes(x), dense);
    }

    private static Run with(String type, long... values) {
        Run x = Use.schema("struct", "field 1 " + type);
        x.begin(0);
        for (long v : values) {
            x.number(1, v);
        }
        return x;
    }

    private static void everyTypeAlone() {
        encoded("nothing", with("int"), "0", "0");
        encoded("flag 0", with("flag", 0), "2 0 1 0 0", "18 0");
        encoded("flag 1", with("flag", 1), "2 0 1 1 0", "17 0");
        encoded("byte 5", with("byte", 5), "3 0 1 5 0", "19 5 0");
        encoded("byte -1", with("byte", -1), "3 0 1 255 0", "19 255 0");
        encoded("byte -128", with("byte", -128), "3 0 1 128 0", "19 128 0");
        encoded("short 300", with("short", 300), "6 0 1 1 44 0", "20 216 4 0");
        encoded("short -2", with("short", -2), "6 0 1 255 254 0", "20 3 0");
        encoded("int 1", with("int", 1), "8 0 1 0 0 0 1 0", "21 2 0");
        encoded("int least", with("int", Integer.MIN_VALUE),
                "8 0 1 128 0 0 0 0", "21 255 255 255 255 15 0");
        encoded("long 0", with("long", 0), "10 0 1 0 0 0 0 0 0 0 0 0", "22 0 0");
        encoded("long bytes", with("long", 0x0102030405060708L), "10 0 1 1 2 3 4 5 6 7 8 0",
                "22 144 156 176 208 128 193 129 130 2 0");
        Run x = with("text");
        Use.text(x, 1, "hi");
        encoded("a text", x, "11 0 1 0 0 0 2 104 105 0", "24 2 104 105 0");
        x.text(1);
        encoded("an empty text", x, "11 0 1 0 0 0 0 0", "24 0 0");
    }

    private static void everyListAlone() {
        encoded("flags", with("list flag", 1, 0, 1),
                "15 0 1 2 0 0 0 3 1 0 1 0", "25 49 1 2 1 0");
        encoded("bytes", with("list byte", -1, 7), "15 0 1 3 0 0 0 2 255 7 0", "25 35 255 7 0");
        encoded("shorts", with("list short", -1, 64), "15 0 1 6 0 0 0 2 255 255 0 64 0",
                "25 36 1 128 1 0");
        encoded("ints", with("list int", 2), "15 0 1 8 0 0 0 1 0 0 0 2 0", "25 21 4 0");
        encoded("longs", with("list long", 1, 2, 3, 4, 5),
                "15 0 1 10 0 0 0 5 0 0 0 0 0 0 0 1 0 0 0 0 0 0 0 2 0 0 0 0 0 0 0 3 "
                        + "0 0 0 0 0 0 0 4 0 0 0 0 0 0 0 5 0",
                "25 86 2 4 6 8 10 0");
        Run x = with("list text");
        Use.text(x, 1, "a");
        Use.text(x, 1, "");
        Use.text(x, 1, "bcdefg");
        encoded("texts", x,
                "15 0 1 11 0 0 0 3 0 0 0 1 97 0 0 0 0 0 0 0 6 98 99 100 101 102 103 0",
                "25 56 1 97 0 6 98 99 100 101 102 103 0");
    }

    private static void fieldsInTheOrderOfTheirIds() {
        Run x = Use.schema("struct", "field 30 byte", "field 2 byte", "field 999 byte",
                "field 11 byte", "field 1 byte");
        x.begin(0);
        for (int id : new int[] {999, 1, 30, 11, 2}) {
            x.number(id, id % 100);
        }
        encoded("by ids", x,
                "3 0 1 1 3 0 2 2 3 0 11 11 3 0 30 30 3 3 231 99 0",
                "19 1 19 2 147 11 3 60 30 3 206 15 99 0");
    }

    private static void headsOfTheDenseForm() {
        Run x = Use.schema("struct", "field 15 flag", "field 30 flag", "field 46 flag",
                "field 47 flag", "field 63 flag");
        x.begin(0);
        x.number(15, 1);
        x.number(30, 0);
        x.number(46, 1);
        x.number(47, 0);
        x.number(63, 0);
        encoded("steps of 15 and 16", x,
                "2 0 15 1 2 0 30 0 2 0 46 1 2 0 47 0 2 0 63 0 0", "241 242 1 92 18 2 126 0");
        x.begin(0);
        x.number(30, 1);
        x.number(63, 1);
        encoded("the step is from the field before that has a value", x,
                "2 0 30 1 2 0 63 1 0", "1 60 1 126 0");
        Run first = Use.schema("struct", "field 16 byte");
        first.begin(0);
        first.number(16, 9);
        encoded("the first is 16", first, "3 0 16 9 0", "3 32 9 0");
    }

    private static void zigzags() {
        long[] values = {0, -1, 1, -2, 63, -64, 64, -65, 8191, -8192, 8192,
            Long.MAX_VALUE, Long.MIN_VALUE};
        String[] rows = {"0", "1", "2", "3", "126", "127", "128 1", "129 1", "254 127", "255 127",
            "128 128 1", "254 255 255 255 255 255 255 255 255 1",
            "255 255 255 255 255 255 255 255 255 1"};
        for (int i = 0; i < values.length; i++) {
            Run x = with("long", values[i]);
            x.encode(1);
            CHECK.same("zigzag of " + values[i], Use.bytes(x), "22 " + rows[i] + " 0");
        }
    }

    private static void recordsInRecords() {
        Run x = Use.schema("struct", "field 1 byte", "field 20 struct 0", "field 3 flag",
                "field 21 list struct 0");
        x.begin(0);
        x.number(1, 1);
        x.open(20);
        x.number(1, 2);
        x.number(3, 1);
        x.back();
        x.open(21);
        x.back();
        x.open(21);
        x.number(1, 3);
        x.back();
        x.number(3, 0);
        encoded("nested", x,
                "3 0 1 1 2 0 3 0 12 0 20 3 0 1 2 2 0 3 1 0 15 0 21 12 0 0 0 2 0 3 0 1 3 0 0",
                "19 1 34 12 40 19 2 33 0 25 44 0 19 3 0 0");
    }

    private static void emptyListsThatWereRead() {
        Run x = Use.schema("struct", "field 1 list int required", "field 2 list struct 0");
        CHECK.same("empty lists", Use.decode(x, 0, 1, 25, 5, 25, 12, 0), 0);
        CHECK.same("no elements", x.size(1), 0);
        encoded("an empty list is a value", x,
                "15 0 1 8 0 0 0 0 15 0 2 12 0 0 0 0 0", "25 5 25 12 0");
    }

    private static void sixDeepThatWereRead() {
        Run x = Use.schema("struct", "field 1 struct 0", "field 2 byte");
        String dense = "28 28 28 28 28 35 7 0 0 0 0 0 0";
        CHECK.same("6 deep", Use.decode(x, 0, 1, 28, 28, 28, 28, 28, 35, 7, 0, 0, 0, 0, 0, 0), 0);
        encoded("6 deep", x, "12 0 1 12 0 1 12 0 1 12 0 1 12 0 1 3 0 2 7 0 0 0 0 0 0", dense);
    }

    private static void theRootIsWrittenNotWhatIsAtHand() {
        Run x = Use.schema("struct", "field 1 byte", "field 2 struct 0");
        x.begin(0);
        x.number(1, 1);
        x.open(2);
        x.number(1, 2);
        encoded("the root", x, "3 0 1 1 12 0 2 3 0 1 2 0 0", "19 1 28 19 2 0 0");
        CHECK.same("the path stays", x.count(3), 2);
    }

    private static void refusals() {
        Run x = Use.schema("struct", "field 1 byte required");
        Use.feed(x, 9, 8);
        CHECK.throwing("no root", Check.STATE, () -> x.encode(0));
        CHECK.throwing("form 2 before no root", Check.ARGUMENT, () -> x.encode(2));
        CHECK.throwing("form -1 before no root", Check.ARGUMENT, () -> x.encode(-1));
        x.begin(0);
        CHECK.throwing("form 2 before lacking", Check.ARGUMENT, () -> x.encode(2));
        CHECK.throwing("lacking", Check.STATE, () -> x.encode(1));
        CHECK.same("the old bytes stay", Use.bytes(x), "9 8");
        x.number(1, 4);
        CHECK.same("encode(1)", x.encode(1), 3);
        CHECK.same("new ones", Use.bytes(x), "19 4 0");
    }

    private static void whatIsLacking() {
        Run x = Use.schema("struct", "field 1 text required", "struct",
                "field 1 list struct 0", "field 2 struct 0", "field 3 list int required");
        x.begin(1);
        CHECK.throwing("a list without elements", Check.STATE, () -> x.encode(0));
        x.number(3, 1);
        CHECK.passes("now it has all", () -> x.encode(0));
        x.open(2);
        CHECK.throwing("the record in field 2 lacks", Check.STATE, () -> x.encode(0));
        x.text(1);
        CHECK.passes("an empty text is a value", () -> x.encode(0));
        x.back();
        x.open(1);
        Use.text(x, 1, "a");
        x.back();
        x.open(1);
        CHECK.throwing("element 1 lacks", Check.STATE, () -> x.encode(1));
        Use.text(x, 1, "b");
        CHECK.passes("nothing lacks", () -> x.encode(1));
    }

    /** In the plain form a list of 5 longs takes 48 bytes, and one of 4 longs 40. */
    private static void atMost120Bytes() {
        Run x = Use.schema("struct", "field 1 list long", "field 2 list long",
                "field 3 list byte", "field 4 list byte");
        x.begin(0);
        for (int k = 0; k < 5; k++) {
            x.number(1, k);
            x.number(2, k);
        }
        CHECK.same("97", x.encode(0), 97);
        for (int k = 0; k < 5; k++) {
            x.number(3, k);
        }
        CHECK.same("110", x.encode(0), 110);
        x.number(4, 1);
        CHECK.same("119", x.encode(0), 119);
        x.number(4, 2);
        CHECK.same("120", x.encode(0), 120);
        CHECK.same("bytes", x.count(0), 120);
        CHECK.same("the last is 0", x.at(119), 0);
        x.number(4, 3);
        CHECK.throwing("121", Check.STATE, () -> x.encode(0));
        CHECK.same("the old 120 stay", x.count(0), 120);
        CHECK.same("with their last", x.at(118), 2);
        x.number(4, 4);
        CHECK.throwing("122", Check.STATE, () -> x.encode(0));
        CHECK.passes("but the dense form is short", () -> x.encode(1));
        CHECK.same("and so are the bytes", x.count(0), 28);
    }
}
