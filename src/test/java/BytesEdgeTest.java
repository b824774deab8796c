/** The edges of BYTES and of promises 11 to 15: clear, feed, decode, count and at. */
final class BytesEdgeTest {
    private static final Check CHECK = new Check("BytesEdgeTest");
    private static final int DENSE = 1;
    private static final int[] FAR = {-2, 256, 65536, Integer.MIN_VALUE, Integer.MAX_VALUE};

    public static void main(String[] args) {
        bytes0To255();
        clearLeavesNone();
        feedPutsBehind();
        feedWith120();
        feedOfNoByte();
        decodeMakesTheRoot();
        decodeWithoutStructOrForm();
        decodeOfNoBytes();
        decodeOf120Bytes();
        malformedBeforeTheOthers();
        whatIsFoundFirst();
        aRecordLacksAtItsEnd();
        nothingChangesOtherwise();
        counts();
        countOfOthers();
        byteAt();
        byteAtNoPlace();
        CHECK.end();
    }

    private static void bytes0To255() {
        CHECK.of("BYTES are 0 .. 255, at most 120.");
        for (int from = 0; from < 256; from += 64) {
            Run x = new Run();
            for (int b = from; b < from + 64; b++) {
                CHECK.yes("feed(" + b + ")", x.feed(b));
                CHECK.same("the byte", x.at(b - from), b);
            }
        }
        Run x = new Run();
        for (int i = 0; i < 120; i++) {
            CHECK.yes("byte " + i, x.feed(i));
        }
        CHECK.keeps("the 121st", x, () -> CHECK.no("the 121st", x.feed(120)));
        CHECK.same("bytes", x.count(0), 120);
    }

    private static void clearLeavesNone() {
        CHECK.of("There are no bytes.");
        for (int many : new int[] {0, 1, 119, 120}) {
            Run x = Use.schema("struct", "field 1 struct 0");
            x.begin(0);
            x.open(1);
            Use.write(x, "struct");
            String before = State.of(x);
            for (int i = 0; i < many; i++) {
                x.feed(200);
            }
            x.clear();
            CHECK.same("bytes", x.count(0), 0);
            CHECK.same("at(0)", x.at(0), -1);
            CHECK.same("all else is as it was without them", State.of(x), before);
            CHECK.keeps("clear() again", x, x::clear);
            CHECK.yes("room again", x.feed(7));
            CHECK.same("one byte", Use.bytes(x), "7");
        }
        Run none = new Run();
        CHECK.keeps("clear() of a new object", none, none::clear);
    }

    private static void feedPutsBehind() {
        CHECK.of("A byte behind the others: true");
        Run x = Use.schema("struct", "field 1 byte");
        CHECK.yes("feed(0)", x.feed(0));
        CHECK.yes("feed(255)", x.feed(255));
        CHECK.same("both", Use.bytes(x), "0 255");
        x.begin(0);
        x.number(1, 5);
        x.encode(1);
        CHECK.yes("behind what was written", x.feed(128));
        CHECK.same("all", Use.bytes(x), "19 5 0 128");
    }

    private static void feedWith120() {
        CHECK.of("false when there are 120");
        Run x = new Run();
        for (int i = 0; i < 119; i++) {
            x.feed(1);
        }
        CHECK.yes("the 120th", x.feed(2));
        for (int b : new int[] {0, 1, 255, -1, 256}) {
            CHECK.keeps("feed(" + b + ")", x, () -> CHECK.no("feed(" + b + ")", x.feed(b)));
        }
        CHECK.same("the last", x.at(119), 2);
        x.clear();
        CHECK.yes("behind clear()", x.feed(3));
    }

    private static void feedOfNoByte() {
        CHECK.of("or b is not 0 .. 255");
        Run none = new Run();
        Run some = new Run();
        some.feed(0);
        some.feed(255);
        for (Run x : new Run[] {none, some}) {
            for (int b : new int[] {-1, -2, -128, -255, -256, 256, 257, 511, 512, 65536,
                Integer.MIN_VALUE, Integer.MAX_VALUE}) {
                CHECK.keeps("feed(" + b + ")", x, () -> CHECK.no("feed(" + b + ")", x.feed(b)));
            }
        }
    }

    // ---- Promise 13: decode

    /** Records of records, in which a byte is required, and a text and a list are not. */
    private static Run forest() {
        return Use.schema("struct", "field 1 struct 0", "field 2 list struct 0",
                "field 3 byte required", "field 4 text", "field 5 list byte");
    }

    private static void decodeMakesTheRoot() {
        CHECK.of("The bytes are read by a struct in a form; what was read is the root then, and at "
                + "hand: 0.");
        for (int path = 0; path <= 4; path++) {
            Run x = forest();
            if (path > 0) {
                x.begin(0);
                x.number(3, 99);
            }
            for (int n = 1; n < path; n++) {
                x.open(1);
            }
            Use.write(x, "ab");
            Use.feed(x, 28, 0x33, 4, 0, 0x23, 5, 0);
            CHECK.same("decode(0, 1)", x.decode(0, DENSE), 0);
            CHECK.same("path", x.count(3), 1);
            CHECK.same("the root", Use.values(x, 3), "5");
            CHECK.no("back()", x.back());
            CHECK.same("the bytes stay", Use.bytes(x), "28 51 4 0 35 5 0");
            x.go(1, 0);
            CHECK.same("the record in it", Use.values(x, 3), "4");
            CHECK.same("nothing else in it", x.size(1), 0);
            x.text(4);
            CHECK.same("the draft stays", Use.texts(x, 4), "/ab");
        }
        Run two = Use.schema("struct", "field 1 byte", "struct", "field 1 short");
        Use.feed(two, 3, 0, 1, 7, 6, 0, 1, 0, 8, 0);
        CHECK.same("by struct 0", two.decode(0, 0), 0);
        CHECK.same("its byte", Use.values(two, 1), "7");
        CHECK.same("by struct 1", two.decode(1, 0), 0);
        CHECK.same("its short", Use.values(two, 1), "8");
    }

    private static void refused(Run x, int due, int struct, int form) {
        String call = "decode(" + struct + ", " + form + ")";
        CHECK.keeps(call, x, () -> CHECK.same(call, x.decode(struct, form), due));
    }

    private static void decodeWithoutStructOrForm() {
        CHECK.of("-1 there is no such struct or form");
        int[][] rows = {{0}, {}, {0, 0}};
        for (int[] row : rows) {
            Run none = new Run();
            Use.feed(none, row);
            refused(none, -1, 0, 0);
            refused(none, -1, -1, 1);
            Run x = Use.schema("struct", "struct", "field 1 int required");
            x.begin(0);
            Use.feed(x, row);
            refused(x, -1, -1, 0);
            refused(x, -1, 2, 0);
            refused(x, -1, 2, 1);
            refused(x, -1, 0, -1);
            refused(x, -1, 0, 2);
            refused(x, -1, 1, 2);
            refused(x, -1, -1, -1);
            for (int far : FAR) {
                refused(x, -1, far, 0);
                refused(x, -1, 0, far);
            }
        }
        Run five = Use.schema("struct", "struct", "struct", "struct", "struct");
        five.feed(0);
        CHECK.same("the fifth struct", five.decode(4, 0), 0);
        refused(five, -1, 5, 0);
    }

    private static void decodeOfNoBytes() {
        CHECK.of("-2 MALFORMED");
        Run x = forest();
        refused(x, -2, 0, 0);
        refused(x, -2, 0, 1);
        x.begin(0);
        refused(x, -2, 0, 0);
        Run bare = Use.schema("struct");
        refused(bare, -2, 0, 0);
        bare.feed(0);
        CHECK.same("an end alone", bare.decode(0, 0), 0);
        CHECK.same("is a root", bare.count(3), 1);
        Run other = Use.schema("struct");
        other.feed(0);
        CHECK.same("an end alone", other.decode(0, 1), 0);
        CHECK.same("is a root", other.count(3), 1);
    }

    private static void decodeOf120Bytes() {
        CHECK.of("BYTES are 0 .. 255, at most 120.");
        Run x = Use.schema("struct", "field 1 byte");
        Use.feed(x, Row.join(Row.times(39, 3, 2, 9), Row.of(19, 8, 0)));
        CHECK.same("bytes", x.count(0), 120);
        CHECK.same("dense", x.decode(0, 1), 0);
        CHECK.same("the value", Use.values(x, 1), "9");
        Run y = Use.schema("struct", "field 1 byte");
        Use.feed(y, Row.join(Row.times(29, 3, 0, 1, 9), Row.of(2, 0, 9), Row.of(0)));
        refused(y, -2, 0, 0);
        Run z = Use.schema("struct", "field 1 byte");
        Use.feed(z, Row.join(Row.times(28, 3, 0, 1, 9), Row.of(6, 0, 1, 5, 5), Row.of(0, 0)));
        refused(z, -2, 0, 0);
        Run w = Use.schema("struct", "field 1 byte");
        Use.feed(w, Row.join(Row.times(27, 3, 0, 1, 9), Row.of(8, 0, 1, 5, 5, 5, 5),
                Row.of(2, 0, 1, 1, 0)));
        CHECK.same("plain", w.decode(0, 0), 0);
        CHECK.same("bytes", w.count(0), 120);
    }

    private static final int[] OWN = {0x33, 1};
    private static final int[] LONG_TEXT = {8, 8, 7, 97, 97, 97, 97, 97, 97, 97};
    private static final int[] LONG_LIST = {9, 10, 0x63, 1, 2, 3, 4, 5, 6};
    private static final int[] BARE_RECORD = {12, 2, 0};

    private static void outcome(String what, int due, int[]... parts) {
        Run x = forest();
        x.begin(0);
        x.open(1);
        Use.feed(x, Row.join(parts));
        CHECK.keeps(what, x, () -> CHECK.same(what, x.decode(0, DENSE), due));
    }

    private static void malformedBeforeTheOthers() {
        CHECK.of("MALFORMED before the others");
        int[] end = {0};
        int[][] malformed = {{7, 2, 0}, {16}, {9, 18, 0x11, 3, 0}, {8, 18, 121, 0}, {3, 2}};
        for (int[] bad : malformed) {
            outcome("behind a long text", -2, OWN, LONG_TEXT, bad);
            outcome("behind a long list", -2, OWN, LONG_LIST, bad);
            outcome("behind a bare record", -2, OWN, BARE_RECORD, bad);
            outcome("behind all", -2, LONG_TEXT, LONG_LIST, BARE_RECORD, bad);
            outcome("within a record that lacks", -2, Row.of(12, 2), bad);
        }
        outcome("one left behind a long text", -2, OWN, LONG_TEXT, end, end);
        outcome("one left behind a long list", -2, OWN, LONG_LIST, end, end);
        outcome("one left behind a bare record", -2, OWN, BARE_RECORD, end, end);
        outcome("one left behind a bare root", -2, end, end);
        outcome("no end behind a long text", -2, OWN, LONG_TEXT);
        outcome("no end behind a bare record", -2, OWN, BARE_RECORD);
        outcome("a long text", -3, OWN, LONG_TEXT, end);
        outcome("a long list", -3, OWN, LONG_LIST, end);
        outcome("a bare record", -4, OWN, BARE_RECORD, end);
        outcome("a bare root", -4, end);
    }

    private static void whatIsFoundFirst() {
        CHECK.of("of -3 and -4 what is found first");
        int[] end = {0};
        for (int[] great : new int[][] {LONG_TEXT, LONG_LIST}) {
            outcome("too great, then a bare record", -3, OWN, great, BARE_RECORD, end);
            outcome("a bare record, then too great", -4, OWN, BARE_RECORD, great, end);
            outcome("too great, twice", -3, OWN, great, great, end);
            outcome("bare, too great, bare", -4, OWN, BARE_RECORD, great, BARE_RECORD, end);
            outcome("too great, bare, too great", -3, OWN, great, BARE_RECORD, great, end);
            outcome("elements: bare, then too great", -4, OWN, Row.of(9, 4, 0x2C), end,
                    OWN, great, end, end);
            outcome("elements: too great, then bare", -3, OWN, Row.of(9, 4, 0x2C),
                    OWN, great, end, end, end);
        }
        outcome("in a list too great there is nothing to find", -3,
                OWN, Row.of(9, 4, 0x6C), Row.times(6, 0), end);
    }

    private static void aRecordLacksAtItsEnd() {
        CHECK.of("a record lacking something at its end");
        int[] end = {0};
        for (int[] great : new int[][] {LONG_TEXT, LONG_LIST}) {
            outcome("too great in a root that lacks", -3, great, end);
            outcome("too great in a record that lacks", -3, OWN, Row.of(12, 2), great, end, end);
            outcome("too great behind a record that lacks", -4, OWN, BARE_RECORD, great, end);
            outcome("too great before the root's required field", -3, great, Row.of(3, 6, 1), end);
            outcome("a bare record in a root that lacks", -4, BARE_RECORD, great, end);
            outcome("a bare record's bare record", -4, OWN, Row.of(12, 2), BARE_RECORD, great, end,
                    end);
        }
    }

    private static void nothingChangesOtherwise() {
        CHECK.of("Otherwise nothing changes");
        int[][] rows = {{}, {0x33, 7}, {0x33, 7, 0, 0}, {0x33, 7, 0x18, 7, 97, 97, 97, 97, 97, 97,
            97, 0}, {0x33, 7, 12, 2, 0, 0}, {0}, {0x47, 0}};
        int[] due = {-2, -2, -2, -3, -4, -4, -2};
        for (int path = 0; path <= 4; path++) {
            Run x = forest();
            if (path > 0) {
                x.begin(0);
            }
            for (int n = 1; n <= path; n++) {
                x.number(3, n);
                x.number(5, n);
                if (n < path) {
                    x.open(n % 2 + 1);
                }
            }
            for (int i = 0; i < rows.length; i++) {
                Run y = x.again();
                Use.feed(y, rows[i]);
                Use.write(y, "field 9 int");
                refused(y, due[i], 0, DENSE);
            }
        }
    }

    // ---- Promises 14 and 15: count and at

    private static void counts() {
        CHECK.of("How many bytes there are (what = 0), structs (1), fields of the latest struct "
                + "(2), records on the path (3)");
        Run x = new Run();
        for (int what = 0; what <= 3; what++) {
            CHECK.same("count(" + what + ") of a new object", x.count(what), 0);
        }
        for (int s = 1; s <= 5; s++) {
            Use.line(x, "struct");
            CHECK.same("structs", x.count(1), s);
            CHECK.same("fields of a new struct", x.count(2), 0);
        }
        for (int f = 1; f <= 8; f++) {
            Use.line(x, "field " + f + " struct 4");
            CHECK.same("fields", x.count(2), f);
        }
        x.begin(0);
        CHECK.same("fields of the latest, not of that at hand", x.count(2), 8);
        x.begin(4);
        for (int n = 1; n <= 4; n++) {
            CHECK.same("path", x.count(3), n);
            if (n < 4) {
                x.open(1);
            }
        }
        Run bytes = new Run();
        for (int n = 1; n <= 120; n++) {
            bytes.feed(0);
            CHECK.same("bytes", bytes.count(0), n);
        }
    }

    private static void countOfOthers() {
        CHECK.of("-1 for others");
        Run none = new Run();
        Run some = forest();
        some.begin(0);
        some.feed(1);
        for (Run x : new Run[] {none, some}) {
            for (int what : new int[] {-1, 4, 5, 100}) {
                CHECK.keeps("count", x, () -> CHECK.same("count(" + what + ")", x.count(what), -1));
            }
            for (int what : FAR) {
                CHECK.same("count(" + what + ")", x.count(what), -1);
            }
            for (int what = 0; what <= 3; what++) {
                int own = what;
                CHECK.keeps("count(" + what + ")", x, () -> x.count(own));
            }
        }
    }

    private static void byteAt() {
        CHECK.of("Byte i");
        Run x = new Run();
        for (int i = 0; i < 120; i++) {
            x.feed(255 - i);
        }
        for (int i = 0; i < 120; i++) {
            CHECK.same("at(" + i + ")", x.at(i), 255 - i);
        }
        CHECK.same("at(120)", x.at(120), -1);
    }

    private static void byteAtNoPlace() {
        CHECK.of("-1 when there is none");
        Run none = new Run();
        Run x = new Run();
        Use.feed(x, 0, 255, 0);
        for (int i : new int[] {-1, -120, 3, 4, 119, 120, 121, 256, Integer.MIN_VALUE,
            Integer.MAX_VALUE}) {
            CHECK.keeps("at", none, () -> CHECK.same("at(" + i + ") of none", none.at(i), -1));
            CHECK.keeps("at", x, () -> CHECK.same("at(" + i + ") of three", x.at(i), -1));
        }
        CHECK.same("at(0) of none", none.at(0), -1);
        CHECK.same("at(2) of three", x.at(2), 0);
        x.clear();
        x.feed(9);
        CHECK.same("at(1) where there was one", x.at(1), -1);
    }
}
