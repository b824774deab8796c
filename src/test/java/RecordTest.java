/** Promises 4 to 9: records and their values; with 16, 17 and 18 to look at them. */
final class RecordTest {
    private static final Check CHECK = new Check("RecordTest");
    private static final String[] ALL_TYPES = {
        "struct", "field 1 flag", "field 2 byte", "field 3 short", "field 4 int", "field 5 long",
        "field 6 text", "field 7 struct 0", "field 8 list int",
        "struct", "field 1 list flag", "field 2 list byte", "field 3 list short",
        "field 4 list long", "field 5 list text", "field 6 list struct 1", "field 7 struct 0"
    };

    public static void main(String[] args) {
        beginMakesAnEmptyRoot();
        numbersWithinTheirTypes();
        numberGoesBehindOthersOfAList();
        numberRefusesInOrder();
        textTakesTheDraft();
        textRefusesAndEmptiesTheDraft();
        openPutsARecordAtHand();
        openRefuses();
        goFindsRecords();
        goRefusesInOrder();
        backStopsAtTheRoot();
        valueRefusesInOrder();
        sizesAndLetters();
        CHECK.end();
    }

    private static void beginMakesAnEmptyRoot() {
        Run x = Use.schema(ALL_TYPES);
        CHECK.no("begin(-1)", x.begin(-1));
        CHECK.no("begin(2)", x.begin(2));
        CHECK.same("no root yet", x.count(3), 0);
        CHECK.yes("begin(0)", x.begin(0));
        for (int id = 1; id <= 8; id++) {
            CHECK.same("size of field " + id, x.size(id), 0);
        }
        x.number(4, 9);
        CHECK.no("begin(5)", x.begin(5));
        CHECK.same("a begin that fails changes nothing", x.value(4, 0), 9);
        x.open(7);
        CHECK.yes("begin(0) again", x.begin(0));
        CHECK.same("path", x.count(3), 1);
        CHECK.same("the new root has no values", x.size(4), 0);
        CHECK.yes("begin(1)", x.begin(1));
        CHECK.same("no field 8 there", x.size(8), -1);
    }

    private static void numbersWithinTheirTypes() {
        long[][] edges = {
            {1, 0, 1}, {2, -128, 127}, {3, -32768, 32767},
            {4, Integer.MIN_VALUE, Integer.MAX_VALUE}, {5, Long.MIN_VALUE, Long.MAX_VALUE}
        };
        Run x = Use.schema(ALL_TYPES);
        x.begin(0);
        for (long[] edge : edges) {
            int id = (int) edge[0];
            for (int e = 1; e <= 2; e++) {
                long v = edge[e];
                CHECK.passes("number(" + id + ", " + v + ")", () -> x.number(id, v));
                CHECK.same("value(" + id + ", 0)", x.value(id, 0), v);
                CHECK.same("size(" + id + ")", x.size(id), 1);
            }
            if (id < 5) {
                CHECK.throwing("below " + id, Check.ARGUMENT, () -> x.number(id, edge[1] - 1));
                CHECK.throwing("above " + id, Check.ARGUMENT, () -> x.number(id, edge[2] + 1));
                CHECK.throwing("far off", Check.ARGUMENT, () -> x.number(id, edge[2] + (1L << 32)));
                CHECK.same("the old value stays", x.value(id, 0), edge[2]);
            }
        }
    }

    private static void numberGoesBehindOthersOfAList() {
        Run x = Use.schema(ALL_TYPES);
        x.begin(1);
        for (int n = 1; n <= 5; n++) {
            x.number(3, 100 * n);
            CHECK.same("size(3)", x.size(3), n);
        }
        CHECK.same("values", Use.values(x, 3), "100 200 300 400 500");
        CHECK.throwing("a sixth", Check.ARGUMENT, () -> x.number(3, 600));
        CHECK.same("values still", Use.values(x, 3), "100 200 300 400 500");
        CHECK.throwing("40000 in shorts", Check.ARGUMENT, () -> x.number(3, 40000));
        CHECK.throwing("2 in flags", Check.ARGUMENT, () -> x.number(1, 2));
        CHECK.throwing("128 in bytes", Check.ARGUMENT, () -> x.number(2, 128));
        CHECK.same("a refused value makes no list", x.encode(1), 13);
    }

    private static void numberRefusesInOrder() {
        Run x = Use.schema(ALL_TYPES);
        CHECK.throwing("no root", Check.STATE, () -> x.number(99, 1));
        x.begin(0);
        CHECK.throwing("no such field", Check.ELEMENT, () -> x.number(9, 1));
        CHECK.throwing("field 0", Check.ELEMENT, () -> x.number(0, 1));
        CHECK.throwing("field -1", Check.ELEMENT, () -> x.number(-1, 1));
        CHECK.throwing("a text", Check.ARGUMENT, () -> x.number(6, 0));
        CHECK.throwing("a struct", Check.ARGUMENT, () -> x.number(7, 0));
        x.begin(1);
        CHECK.throwing("a list of texts", Check.ARGUMENT, () -> x.number(5, 0));
        CHECK.throwing("a list of structs", Check.ARGUMENT, () -> x.number(6, 0));
    }

    private static void textTakesTheDraft() {
        Run x = Use.schema(ALL_TYPES);
        x.begin(0);
        Use.text(x, 6, "abc");
        CHECK.same("the text", Use.texts(x, 6), "/abc");
        Use.text(x, 6, " ~\"0zZ");
        CHECK.same("six characters in its stead", Use.texts(x, 6), "/ ~\"0zZ");
        x.text(6);
        CHECK.same("the draft was empty, so the text is", Use.texts(x, 6), "/");
        CHECK.same("an empty text is a value", x.size(6), 1);
        Use.text(x, 6, "q");
        CHECK.same("no rest of a longer one", x.letter(6, 0, 1), -1);
        x.begin(1);
        for (String draft : new String[] {"a", "bb", "", "dddddd", "e"}) {
            Use.text(x, 5, draft);
        }
        CHECK.same("a list of texts", Use.texts(x, 5), "/a/bb//dddddd/e");
        CHECK.throwing("a sixth", Check.ARGUMENT, () -> Use.text(x, 5, "f"));
        CHECK.same("the list still", Use.texts(x, 5), "/a/bb//dddddd/e");
    }

    private static void textRefusesAndEmptiesTheDraft() {
        Run x = Use.schema(ALL_TYPES);
        CHECK.throwing("no root", Check.STATE, () -> Use.text(x, 6, "sevenor"));
        CHECK.same("empty behind a state", x.line(), 0);
        x.begin(0);
        CHECK.throwing("no such field", Check.ELEMENT, () -> Use.text(x, 60, "sevenor"));
        CHECK.same("empty behind no field", x.line(), 0);
        CHECK.throwing("seven characters", Check.ARGUMENT, () -> Use.text(x, 6, "seven.."));
        CHECK.same("empty behind seven", x.line(), 0);
        CHECK.throwing("40 characters", Check.ARGUMENT, () -> Use.text(x, 6, "x".repeat(40)));
        CHECK.same("no value of those", x.size(6), 0);
        for (int id : new int[] {1, 2, 3, 4, 5, 7, 8}) {
            CHECK.throwing("field " + id + " is no text", Check.ARGUMENT,
                    () -> Use.text(x, id, "1"));
            CHECK.same("empty behind no text", x.line(), 0);
        }
        Use.text(x, 6, "ok");
        CHECK.same("empty behind a text", x.line(), 0);
        CHECK.same("the text", Use.texts(x, 6), "/ok");
    }

    private static void openPutsARecordAtHand() {
        Run x = Use.schema(ALL_TYPES);
        x.begin(1);
        x.open(7);
        CHECK.same("path", x.count(3), 2);
        CHECK.same("a record of struct 0", x.size(8), 0);
        x.number(4, 44);
        x.back();
        CHECK.same("size of a struct field", x.size(7), 1);
        x.open(7);
        CHECK.same("a new one in its stead", x.size(4), 0);
        x.back();
        CHECK.same("size is still 1", x.size(7), 1);
        for (int n = 1; n <= 5; n++) {
            x.open(6);
            x.number(2, n);
            x.back();
            CHECK.same("size of the list", x.size(6), n);
        }
        for (int k = 0; k < 5; k++) {
            x.go(6, k);
            CHECK.same("element " + k, x.value(2, 0), k + 1);
            x.back();
        }
        CHECK.throwing("a sixth record", Check.ARGUMENT, () -> x.open(6));
        CHECK.same("path at last", x.count(3), 1);
    }

    private static void openRefuses() {
        Run x = Use.schema(ALL_TYPES);
        CHECK.throwing("no root", Check.STATE, () -> x.open(99));
        x.begin(0);
        CHECK.throwing("no such field", Check.ELEMENT, () -> x.open(9));
        for (int id : new int[] {1, 2, 3, 4, 5, 6, 8}) {
            CHECK.throwing("field " + id + " is no struct", Check.ARGUMENT, () -> x.open(id));
        }
        for (int n = 2; n <= 4; n++) {
            x.open(7);
            CHECK.same("path", x.count(3), n);
        }
        CHECK.throwing("four on the path", Check.ARGUMENT, () -> x.open(7));
        CHECK.same("no record was made", x.size(7), 0);
        CHECK.throwing("no field, four on the path", Check.ELEMENT, () -> x.open(9));
        CHECK.same("path still", x.count(3), 4);
    }

    private static void goFindsRecords() {
        Run x = Use.schema(ALL_TYPES);
        x.begin(0);
        x.number(4, 1);
        x.open(7);
        x.number(4, 2);
        x.open(7);
        x.number(4, 3);
        x.back();
        x.back();
        x.go(7, 0);
        CHECK.same("the record in field 7", x.value(4, 0), 2);
        x.go(7, 0);
        CHECK.same("the one in that", x.value(4, 0), 3);
        CHECK.same("path", x.count(3), 3);
        x.number(4, 33);
        x.back();
        x.back();
        x.go(7, 0);
        x.go(7, 0);
        CHECK.same("what was set there stays", x.value(4, 0), 33);
    }

    private static void goRefusesInOrder() {
        Run x = Use.schema(ALL_TYPES);
        CHECK.throwing("no root", Check.STATE, () -> x.go(99, 0));
        x.begin(1);
        CHECK.throwing("no such field", Check.ELEMENT, () -> x.go(99, 0));
        for (int id : new int[] {1, 2, 3, 4, 5}) {
            CHECK.throwing("field " + id + " is no struct", Check.ARGUMENT, () -> x.go(id, 0));
        }
        CHECK.throwing("no record in the field", Check.ELEMENT, () -> x.go(7, 0));
        CHECK.throwing("no record in the list", Check.ELEMENT, () -> x.go(6, 0));
        x.open(7);
        x.back();
        CHECK.throwing("k = 1 of a struct field", Check.ELEMENT, () -> x.go(7, 1));
        CHECK.throwing("k = -1 of a struct field", Check.ELEMENT, () -> x.go(7, -1));
        x.open(6);
        x.open(6);
        x.open(6);
        CHECK.throwing("no record, four on the path", Check.ELEMENT, () -> x.go(6, 0));
        CHECK.throwing("no struct, four on the path", Check.ARGUMENT, () -> x.go(1, 0));
        x.back();
        CHECK.throwing("element 1 of one", Check.ELEMENT, () -> x.go(6, 1));
        CHECK.throwing("element -1", Check.ELEMENT, () -> x.go(6, -1));
        CHECK.same("path", x.count(3), 3);
        fiveDeepByReading();
    }

    /** Only reading can put a record below the fourth of the path. */
    private static void fiveDeepByReading() {
        Run x = Use.schema(ALL_TYPES);
        int read = Use.decode(x, 0, 1, 0x7C, 0x7C, 0x7C, 0x7C, 0, 0, 0, 0, 0);
        CHECK.same("five deep", read, 0);
        x.go(7, 0);
        x.go(7, 0);
        x.go(7, 0);
        CHECK.same("there is a fifth", x.size(7), 1);
        CHECK.throwing("a fifth on the path", Check.ARGUMENT, () -> x.go(7, 0));
        CHECK.throwing("no such record first", Check.ELEMENT, () -> x.go(7, 1));
        CHECK.same("path", x.count(3), 4);
    }

    private static void backStopsAtTheRoot() {
        Run x = Use.schema(ALL_TYPES);
        CHECK.no("no root", x.back());
        x.begin(0);
        CHECK.no("at the root", x.back());
        x.number(4, 1);
        x.open(7);
        x.open(7);
        CHECK.yes("from the third", x.back());
        CHECK.yes("from the second", x.back());
        CHECK.same("the root is at hand", x.value(4, 0), 1);
        CHECK.no("at the root again", x.back());
        CHECK.same("the root stays", x.count(3), 1);
    }

    private static void valueRefusesInOrder() {
        Run x = Use.schema(ALL_TYPES);
        CHECK.throwing("no root", Check.STATE, () -> x.value(99, 0));
        x.begin(1);
        CHECK.throwing("no such field", Check.ELEMENT, () -> x.value(99, 0));
        CHECK.throwing("a struct", Check.ARGUMENT, () -> x.value(7, 9));
        CHECK.throwing("a list of structs", Check.ARGUMENT, () -> x.value(6, 9));
        CHECK.throwing("an empty list", Check.ELEMENT, () -> x.value(4, 0));
        x.number(4, -7);
        CHECK.same("value(4, 0)", x.value(4, 0), -7);
        CHECK.throwing("k = 1 of one", Check.ELEMENT, () -> x.value(4, 1));
        CHECK.throwing("k = -1", Check.ELEMENT, () -> x.value(4, -1));
        x.begin(0);
        CHECK.throwing("no value", Check.ELEMENT, () -> x.value(4, 0));
        CHECK.throwing("no text", Check.ELEMENT, () -> x.value(6, 0));
        x.number(4, 3);
        CHECK.throwing("k = 1 of what is no list", Check.ELEMENT, () -> x.value(4, 1));
        Use.text(x, 6, "four");
        CHECK.same("the length of a text", x.value(6, 0), 4);
        CHECK.throwing("a second text", Check.ELEMENT, () -> x.value(6, 1));
    }

    private static void sizesAndLetters() {
        Run x = Use.schema(ALL_TYPES);
        x.begin(0);
        CHECK.same("no such field", x.size(0), -1);
        CHECK.same("letter of no text yet", x.letter(6, 0, 0), -1);
        Use.text(x, 6, "xyz");
        CHECK.same("first letter", x.letter(6, 0, 0), 'x');
        CHECK.same("last letter", x.letter(6, 0, 2), 'z');
        CHECK.same("behind the last", x.letter(6, 0, 3), -1);
        CHECK.same("before the first", x.letter(6, 0, -1), -1);
        CHECK.same("text 1 of one", x.letter(6, 1, 0), -1);
        CHECK.same("text -1", x.letter(6, -1, 0), -1);
        CHECK.same("no such field", x.letter(60, 0, 0), -1);
        x.number(4, 65);
        CHECK.same("a number has no letters", x.letter(4, 0, 0), -1);
        x.open(7);
        CHECK.same("another record is at hand", x.letter(6, 0, 0), -1);
        x.back();
        CHECK.same("a struct has no letters", x.letter(7, 0, 0), -1);
        x.begin(1);
        Use.text(x, 5, "ab");
        Use.text(x, 5, "cdefgh");
        CHECK.same("letter of the second", x.letter(5, 1, 5), 'h');
        CHECK.same("not over into the second", x.letter(5, 0, 2), -1);
        CHECK.same("no seventh", x.letter(5, 0, 6), -1);
        CHECK.same("no third", x.letter(5, 2, 0), -1);
    }
}
