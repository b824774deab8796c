import java.util.function.Consumer;

/** The edges of VALUES, of promises 4 to 9, and of the looks at a record, 16 to 18. */
final class RecordEdgeTest {
    private static final Check CHECK = new Check("RecordEdgeTest");
    private static final String[] NUMBERS = {"flag", "byte", "short", "int", "long"};
    private static final String[] PLAIN_TYPES = {"flag", "byte", "short", "int", "long", "text"};
    private static final long[] LEAST = {0, -128, -32768, -2147483648L, Long.MIN_VALUE};
    private static final long[] MOST = {1, 127, 32767, 2147483647L, Long.MAX_VALUE};
    private static final int[] NO_IDS = {0, -1, 9, 999, 1000, 65537, Integer.MIN_VALUE,
        Integer.MAX_VALUE};
    private static final int[] NO_PLACES = {-1, Integer.MIN_VALUE, Integer.MAX_VALUE, 65536};

    public static void main(String[] args) {
        nothingElseChanges();
        numbersOfEachType();
        textsOfSix();
        listsOfFive();
        valuesOrNothing();
        rootOrNone();
        fourOnThePath();
        beginMakesTheRoot();
        beginRefuses();
        numberIsTheValue();
        numberGoesBehind();
        nothingWithoutRoot();
        nothingWithoutField();
        numberOfNoNumber();
        numberThatIsNone();
        numberInAFullList();
        textTakesTheDraft();
        textEmptiesTheDraftWhenItThrows();
        textOfNoText();
        textTooLong();
        openInTheStead();
        openBehindOthers();
        openRefuses();
        openWithFourOnThePath();
        goToARecord();
        goRefusesInItsOrder();
        backToTheOneBefore();
        backStaysAtTheRoot();
        sizes();
        sizeOfNothing();
        values();
        valueRefusesInItsOrder();
        letters();
        noLetters();
        CHECK.end();
    }

    /** A new object with a struct of these types, as fields 1, 2, .., whose record is the root. */
    private static Run rootOf(String... types) {
        Run x = structOf(types);
        x.begin(0);
        return x;
    }

    private static Run structOf(String... types) {
        Run x = Use.schema("struct");
        for (int i = 0; i < types.length; i++) {
            Use.line(x, "field " + (i + 1) + " " + types[i]);
        }
        return x;
    }

    private static void refusedNumber(Run x, String due, int id, long v) {
        CHECK.refused("number(" + id + ", " + v + ")", due, x, () -> x.number(id, v));
    }

    /** The draft is gone; all else is as it was before the draft was written. */
    private static void refusedText(Run x, String due, int id, String draft) {
        CHECK.refused("text(" + id + ") of '" + draft + "'", due, x, () -> Use.text(x, id, draft));
    }

    private static void refusedOpen(Run x, String due, int id) {
        CHECK.refused("open(" + id + ")", due, x, () -> x.open(id));
    }

    private static void refusedGo(Run x, String due, int id, int k) {
        CHECK.refused("go(" + id + ", " + k + ")", due, x, () -> x.go(id, k));
    }

    private static void refusedValue(Run x, String due, int id, int k) {
        CHECK.refused("value(" + id + ", " + k + ")", due, x, () -> x.value(id, k));
    }

    private static void noLetter(Run x, int id, int k, int i) {
        String call = "letter(" + id + ", " + k + ", " + i + ")";
        CHECK.keeps(call, x, () -> CHECK.same(call, x.letter(id, k, i), -1));
    }

    // ---- what no promise names

    /** Of the parts of the state, those that the promise of a call does not name stay. */
    private static void nothingElseChanges() {
        CHECK.of("Nothing is promised beyond the answers and state changes described above");
        Run x = rootOf("byte", "text", "struct 0");
        x.open(3);
        x.open(3);
        x.back();
        Use.feed(x, 19, 5, 0);
        Use.write(x, "struct");
        String bytes = State.bytes(x);
        String records = State.records(x);
        String draft = State.draft(x);
        String schema = State.schema(x);
        leaves(x, y -> y.write('s'), bytes, records, schema);
        leaves(x, Run::line, bytes);
        leaves(x, y -> y.begin(0), bytes, draft, schema);
        leaves(x, y -> y.number(1, 5), bytes, draft, schema);
        leaves(x, y -> y.text(2), bytes, schema);
        leaves(x, y -> y.open(3), bytes, draft, schema);
        leaves(x, y -> y.go(3, 0), bytes, draft, schema);
        leaves(x, Run::back, bytes, draft, schema);
        leaves(x, y -> y.encode(0), records, draft, schema);
        leaves(x, Run::clear, records, draft, schema);
        leaves(x, y -> y.feed(0), records, draft, schema);
        leaves(x, y -> y.decode(0, 1), bytes, draft, schema);
        leaves(x, y -> y.count(0), bytes, records, draft, schema);
        leaves(x, y -> y.at(0), bytes, records, draft, schema);
        leaves(x, y -> y.size(3), bytes, records, draft, schema);
        leaves(x, y -> y.letter(2, 0, 0), bytes, records, draft, schema);
        x.number(1, 9);
        leaves(x, y -> y.value(1, 0), bytes, State.records(x), draft, schema);
    }

    private static void leaves(Run run, Consumer<Run> call, String... parts) {
        Run x = run.again();
        call.accept(x);
        String behind = State.bytes(x) + State.records(x) + State.draft(x) + State.schema(x);
        for (String part : parts) {
            CHECK.yes(part + " in " + behind, behind.contains(part));
        }
    }

    // ---- VALUES

    private static void numbersOfEachType() {
        CHECK.of("A flag is 0 or 1; a byte -128 .. 127; a short, an int and a long as Java's");
        for (int t = 0; t < NUMBERS.length; t++) {
            Run x = rootOf(NUMBERS[t], "list " + NUMBERS[t]);
            for (long v : new long[] {LEAST[t], 0, 1, MOST[t]}) {
                x.number(1, v);
                CHECK.same(NUMBERS[t], x.value(1, 0), v);
                x.number(2, v);
                CHECK.same("list " + NUMBERS[t], x.value(2, x.size(2) - 1), v);
            }
        }
    }

    private static void textsOfSix() {
        CHECK.of("a TEXT has up to 6 characters 32 .. 126");
        Run x = rootOf("text", "list text");
        for (String text : new String[] {"", " ", "~", " ~ ~ ", "      ", "~~~~~~"}) {
            Use.text(x, 1, text);
            CHECK.same("the text", Use.texts(x, 1), "/" + text);
        }
        for (String text : new String[] {"12345", "123456", ""}) {
            Use.text(x, 2, text);
        }
        CHECK.same("the list", Use.texts(x, 2), "/12345/123456/");
        refusedText(x, Check.ARGUMENT, 1, "1234567");
        refusedText(x, Check.ARGUMENT, 2, "1234567");
    }

    private static void listsOfFive() {
        CHECK.of("a list up to 5 elements");
        for (String type : NUMBERS) {
            Run x = rootOf("list " + type);
            for (int n = 1; n <= 5; n++) {
                x.number(1, n % 2);
                CHECK.same("list " + type, x.size(1), n);
            }
            refusedNumber(x, Check.ARGUMENT, 1, 1);
        }
        Run texts = rootOf("list text");
        Run records = rootOf("list struct 0");
        for (int n = 1; n <= 5; n++) {
            texts.text(1);
            CHECK.same("list text", texts.size(1), n);
            records.open(1);
            records.back();
            CHECK.same("list struct", records.size(1), n);
        }
        refusedText(texts, Check.ARGUMENT, 1, "");
        refusedOpen(records, Check.ARGUMENT, 1);
    }

    private static void valuesOrNothing() {
        CHECK.of("a RECORD of a struct has for each of its fields a value, or nothing");
        Run x = rootOf("flag", "text", "struct 0", "list int");
        for (int id = 1; id <= 4; id++) {
            CHECK.same("nothing in field " + id, x.size(id), 0);
        }
        CHECK.same("nothing is written", x.encode(0), 1);
        x.number(1, 0);
        x.text(2);
        x.open(3);
        x.back();
        for (int id = 1; id <= 3; id++) {
            CHECK.same("a value in field " + id, x.size(id), 1);
        }
        CHECK.same("0, an empty text and an empty record are written", x.encode(1), 6);
        CHECK.same("nothing in field 4", x.size(4), 0);
    }

    private static void rootOrNone() {
        CHECK.of("There is a ROOT record, of some struct, or none");
        Run x = new Run();
        CHECK.same("none without a schema", x.count(3), 0);
        Use.line(x, "struct");
        CHECK.same("none without a record", x.count(3), 0);
        x.begin(0);
        CHECK.same("a root of a struct without fields", x.count(3), 1);
        CHECK.same("it is written", x.encode(0), 1);
        CHECK.same("as an end alone", Use.bytes(x), "0");
    }

    private static void fourOnThePath() {
        CHECK.of("at most 4 records lie on the path");
        Run x = rootOf("struct 0", "list struct 0", "byte");
        for (int n = 1; n <= 3; n++) {
            CHECK.same("path", x.count(3), n);
            x.number(3, n);
            x.open(n == 2 ? 2 : 1);
        }
        CHECK.same("path", x.count(3), 4);
        refusedOpen(x, Check.ARGUMENT, 1);
        refusedOpen(x, Check.ARGUMENT, 2);
        x.number(3, 4);
        for (int n = 4; n >= 1; n--) {
            CHECK.same("the record at hand", x.value(3, 0), n);
            CHECK.same("back()", x.back() ? 1 : 0, n > 1 ? 1 : 0);
        }
        Run deep = structOf("struct 0", "list struct 0", "byte");
        int read = Use.decode(deep, 0, 1, 28, 28, 28, 28, 51, 5, 0, 41, 28, 51, 6, 0, 0, 0, 0, 0);
        CHECK.same("a record with records in the fifth place", read, 0);
        for (int n = 2; n <= 4; n++) {
            deep.go(1, 0);
        }
        CHECK.same("path", deep.count(3), 4);
        refusedGo(deep, Check.ARGUMENT, 1, 0);
        refusedOpen(deep, Check.ARGUMENT, 1);
    }

    // ---- Promise 4: begin

    private static void beginMakesTheRoot() {
        CHECK.of("The root becomes a record of a struct, without values, and the record at hand: "
                + "true");
        for (int path = 1; path <= 4; path++) {
            Run x = Use.schema("struct", "field 1 struct 0", "field 2 byte", "struct",
                    "field 3 text");
            x.begin(0);
            x.number(2, 1);
            for (int n = 1; n < path; n++) {
                x.open(1);
                x.number(2, 1);
            }
            Run y = x.again();
            CHECK.yes("begin(0)", x.begin(0));
            CHECK.same("path", x.count(3), 1);
            CHECK.same("size(1)", x.size(1), 0);
            CHECK.same("size(2)", x.size(2), 0);
            CHECK.yes("begin(1)", y.begin(1));
            CHECK.same("path", y.count(3), 1);
            CHECK.same("a field of struct 1", y.size(3), 0);
            CHECK.same("a field of struct 0", y.size(2), -1);
        }
    }

    private static void beginRefuses() {
        CHECK.of("false when there is no such struct");
        Run none = new Run();
        Run x = Use.schema("struct", "field 1 struct 0", "struct");
        x.begin(0);
        x.open(1);
        for (int struct : new int[] {-1, 2, 3, 5, 256, 65536, Integer.MIN_VALUE,
            Integer.MAX_VALUE}) {
            CHECK.keeps("begin(" + struct + ")", none,
                    () -> CHECK.no("begin(" + struct + ") of none", none.begin(struct)));
            CHECK.keeps("begin(" + struct + ")", x,
                    () -> CHECK.no("begin(" + struct + ") of two", x.begin(struct)));
        }
        CHECK.keeps("begin(0)", none, () -> CHECK.no("begin(0) of none", none.begin(0)));
        CHECK.yes("begin(1) of two", x.begin(1));
    }

    // ---- Promise 5: number

    private static void numberIsTheValue() {
        CHECK.of("A field of the record at hand gets a value");
        Run x = rootOf("int", "struct 0", "int");
        x.number(1, 5);
        x.number(1, 0);
        CHECK.same("a later one in its stead", Use.values(x, 1), "0");
        CHECK.same("another field has nothing", x.size(3), 0);
        x.open(2);
        CHECK.same("another record has nothing", x.size(1), 0);
        x.number(1, 9);
        CHECK.same("the record at hand", x.value(1, 0), 9);
        x.back();
        CHECK.same("the record before", x.value(1, 0), 0);
    }

    private static void numberGoesBehind() {
        CHECK.of("a list gets it behind its others");
        Run x = rootOf("list long", "list long");
        String all = "";
        for (int n = 1; n <= 5; n++) {
            x.number(1, -n);
            all += (n == 1 ? "" : " ") + -n;
            CHECK.same("the list", Use.values(x, 1), all);
        }
        CHECK.same("another list", x.size(2), 0);
        Run read = structOf("list byte");
        CHECK.same("an empty list is read", Use.decode(read, 0, 1, 25, 3, 0), 0);
        read.number(1, 7);
        CHECK.same("it gets a first", Use.values(read, 1), "7");
    }

    private static void nothingWithoutRoot() {
        CHECK.of("IllegalStateException when there is no root");
        Run x = structOf("int", "text", "struct 0");
        for (int id = 0; id <= 3; id++) {
            refusedNumber(x, Check.STATE, id, 1L << 40);
            refusedText(x, Check.STATE, id, "sevenor");
            refusedOpen(x, Check.STATE, id);
            refusedGo(x, Check.STATE, id, -1);
            refusedValue(x, Check.STATE, id, -1);
        }
        Run none = new Run();
        refusedNumber(none, Check.STATE, 1, 1);
        refusedText(none, Check.STATE, 1, "");
        refusedOpen(none, Check.STATE, 1);
        refusedGo(none, Check.STATE, 1, 0);
        refusedValue(none, Check.STATE, 1, 0);
    }

    private static void nothingWithoutField() {
        CHECK.of("NoSuchElementException when the struct has no field of that id");
        Run x = Use.schema("struct", "field 1 int", "struct", "field 2 int", "field 9 int");
        x.begin(0);
        x.number(1, 5);
        for (int id : NO_IDS) {
            refusedNumber(x, Check.ELEMENT, id, 1);
            refusedNumber(x, Check.ELEMENT, id, 1L << 40);
            refusedText(x, Check.ELEMENT, id, "sevenor");
            refusedOpen(x, Check.ELEMENT, id);
            refusedGo(x, Check.ELEMENT, id, 0);
            refusedValue(x, Check.ELEMENT, id, 0);
        }
        refusedNumber(x, Check.ELEMENT, 2, 1);
    }

    private static void numberOfNoNumber() {
        CHECK.of("IllegalArgumentException when that is no flag, byte, short, int or long (nor a "
                + "list of such)");
        Run x = rootOf("text", "struct 0", "list text", "list struct 0");
        for (int id = 1; id <= 4; id++) {
            refusedNumber(x, Check.ARGUMENT, id, 0);
            refusedNumber(x, Check.ARGUMENT, id, 1);
            refusedNumber(x, Check.ARGUMENT, id, -1);
        }
    }

    private static void numberThatIsNone() {
        CHECK.of("v is none");
        for (int t = 0; t < NUMBERS.length - 1; t++) {
            Run x = rootOf(NUMBERS[t], "list " + NUMBERS[t], NUMBERS[t]);
            x.number(1, MOST[t]);
            x.number(2, LEAST[t]);
            long range = MOST[t] - LEAST[t] + 1;
            // Those of the second row would be right when cut to the bits of their type.
            for (long v : new long[] {LEAST[t] - 1, MOST[t] + 1, Long.MIN_VALUE, Long.MAX_VALUE,
                LEAST[t] - range, MOST[t] + range, 1L << 32, (1L << 32) + 1, 1L << 63, 256}) {
                boolean fits = v >= LEAST[t] && v <= MOST[t];
                if (!fits) {
                    refusedNumber(x, Check.ARGUMENT, 1, v);
                    refusedNumber(x, Check.ARGUMENT, 2, v);
                    refusedNumber(x, Check.ARGUMENT, 3, v);
                }
            }
            CHECK.same("the value", Use.values(x, 1), Long.toString(MOST[t]));
            CHECK.same("the list", Use.values(x, 2), Long.toString(LEAST[t]));
            CHECK.same("nothing", x.size(3), 0);
        }
    }

    private static void numberInAFullList() {
        CHECK.of("or the list has 5 (in this order)");
        Run x = rootOf("list int", "list int", "int");
        for (int n = 1; n <= 5; n++) {
            x.number(1, n);
            x.number(3, n);
        }
        refusedNumber(x, Check.ARGUMENT, 1, 6);
        refusedNumber(x, Check.ARGUMENT, 1, 1L << 31);
        CHECK.passes("another list", () -> x.number(2, 1));
        CHECK.passes("no list", () -> x.number(3, 6));
        CHECK.same("the list", Use.values(x, 1), "1 2 3 4 5");
        Run read = structOf("list byte");
        CHECK.same("five", Use.decode(read, 0, 1, 25, 0x53, 1, 2, 3, 4, 5, 0), 0);
        refusedNumber(read, Check.ARGUMENT, 1, 6);
    }

    // ---- Promise 6: text

    private static void textTakesTheDraft() {
        CHECK.of("A text field, or list of texts, gets the draft likewise, which is empty then");
        Run x = rootOf("text", "list text");
        Use.text(x, 1, "abcdef");
        Use.text(x, 1, "gh");
        CHECK.same("a later one in its stead", Use.texts(x, 1), "/gh");
        x.text(1);
        CHECK.same("the draft was empty", Use.texts(x, 1), "/");
        String all = "";
        for (String text : new String[] {"a", "bcdefg", "", "h", " "}) {
            Use.text(x, 2, text);
            all += "/" + text;
            CHECK.same("behind the others", Use.texts(x, 2), all);
        }
        CHECK.same("the draft is empty", x.line(), 0);
        CHECK.same("the root stays", x.count(3), 1);
    }

    private static void textEmptiesTheDraftWhenItThrows() {
        CHECK.of("(also when something is thrown)");
        for (String draft : new String[] {"struct", "", " ", "1234567", "x".repeat(40)}) {
            Run x = structOf("text", "list text", "int");
            refusedText(x, Check.STATE, 1, draft);
            x.begin(0);
            refusedText(x, Check.ELEMENT, 4, draft);
            refusedText(x, Check.ARGUMENT, 3, draft);
            for (int n = 1; n <= 5; n++) {
                x.text(2);
            }
            refusedText(x, Check.ARGUMENT, 2, draft);
            CHECK.same("the draft", x.line(), 0);
        }
        Run x = rootOf("text");
        refusedText(x, Check.ARGUMENT, 1, "struct ");
        x.text(1);
        CHECK.same("nothing of it is left", Use.texts(x, 1), "/");
    }

    private static void textOfNoText() {
        CHECK.of("IllegalArgumentException when it is no text");
        for (String type : new String[] {"flag", "byte", "short", "int", "long", "struct 0"}) {
            Run x = rootOf(type, "list " + type);
            for (String draft : new String[] {"", "1", "a", "sevenor"}) {
                refusedText(x, Check.ARGUMENT, 1, draft);
                refusedText(x, Check.ARGUMENT, 2, draft);
            }
        }
    }

    private static void textTooLong() {
        CHECK.of("or has more than 6 characters, too");
        Run x = rootOf("text", "list text");
        Use.text(x, 1, "keepme");
        for (int length = 1; length <= 6; length++) {
            Use.text(x, 1, "x".repeat(length));
            CHECK.same("the length", x.value(1, 0), length);
        }
        Use.text(x, 2, "123456");
        for (int length : new int[] {7, 8, 12, 39, 40}) {
            refusedText(x.again(), Check.ARGUMENT, 1, "y".repeat(length));
            refusedText(x.again(), Check.ARGUMENT, 2, " ".repeat(length));
        }
        refusedText(x, Check.ARGUMENT, 1, "       ");
        CHECK.same("the text", Use.texts(x, 1), "/xxxxxx");
        CHECK.same("the list", Use.texts(x, 2), "/123456");
    }

    // ---- Promise 7: open

    private static void openInTheStead() {
        CHECK.of("A struct field gets a new record (in the stead of an old one)");
        Run x = rootOf("struct 0", "byte", "list byte");
        x.open(1);
        CHECK.same("path", x.count(3), 2);
        x.number(2, 1);
        x.number(3, 1);
        x.open(1);
        x.back();
        x.back();
        CHECK.same("one", x.size(1), 1);
        x.open(1);
        for (int id = 1; id <= 3; id++) {
            CHECK.same("nothing of the old one", x.size(id), 0);
        }
        x.back();
        CHECK.same("still one", x.size(1), 1);
        CHECK.same("the old one is not written", x.encode(1), 3);
    }

    private static void openBehindOthers() {
        CHECK.of("or a list of structs gets one behind its others; that is at hand then");
        Run x = rootOf("list struct 0", "byte");
        for (int n = 1; n <= 5; n++) {
            x.open(1);
            CHECK.same("nothing in it", x.size(2), 0);
            CHECK.same("path", x.count(3), 2);
            x.number(2, n);
            x.back();
            CHECK.same("how many", x.size(1), n);
        }
        for (int k = 0; k < 5; k++) {
            x.go(1, k);
            CHECK.same("element " + k, x.value(2, 0), k + 1);
            x.back();
        }
        refusedOpen(x, Check.ARGUMENT, 1);
        CHECK.same("the root is at hand", x.count(3), 1);
    }

    private static void openRefuses() {
        CHECK.of("void open(int id) throws IllegalStateException, NoSuchElementException, "
                + "IllegalArgumentException");
        for (String type : PLAIN_TYPES) {
            Run x = rootOf(type, "list " + type);
            refusedOpen(x, Check.ARGUMENT, 1);
            refusedOpen(x, Check.ARGUMENT, 2);
            refusedOpen(x, Check.ELEMENT, 3);
            Use.line(x, "struct");
            refusedOpen(x, Check.STATE, 1);
        }
    }

    private static void openWithFourOnThePath() {
        CHECK.of("IllegalArgumentException also when four records lie on the path.");
        Run x = rootOf("struct 0", "list struct 0", "int");
        x.open(1);
        x.open(2);
        CHECK.passes("with three on the path", () -> x.open(1));
        refusedOpen(x, Check.ARGUMENT, 1);
        refusedOpen(x, Check.ARGUMENT, 2);
        refusedOpen(x, Check.ARGUMENT, 3);
        refusedOpen(x, Check.ELEMENT, 4);
        x.back();
        CHECK.passes("with three again", () -> x.open(2));
        CHECK.same("path", x.count(3), 4);
    }

    // ---- Promise 8: go

    private static void goToARecord() {
        CHECK.of("The record in a struct field (k = 0), or element k of a list of structs, is at "
                + "hand.");
        Run x = rootOf("struct 0", "list struct 0", "byte");
        x.open(1);
        x.number(3, 9);
        x.back();
        for (int n = 0; n < 5; n++) {
            x.open(2);
            x.number(3, n);
            x.back();
        }
        x.go(1, 0);
        CHECK.same("in the struct field", x.value(3, 0), 9);
        x.back();
        for (int k : new int[] {4, 0, 2}) {
            x.go(2, k);
            CHECK.same("path", x.count(3), 2);
            CHECK.same("element " + k, x.value(3, 0), k);
            x.back();
        }
        x.go(2, 4);
        x.number(3, 44);
        x.back();
        x.go(2, 4);
        CHECK.same("it is the record itself, no copy", x.value(3, 0), 44);
    }

    private static void goRefusesInItsOrder() {
        CHECK.of("In this order: IllegalStateException when there is no root; "
                + "NoSuchElementException when there is no field of that id; "
                + "IllegalArgumentException when it is no such field; NoSuchElementException when "
                + "there is no such record; IllegalArgumentException when four lie on the path.");
        Run x = structOf("struct 0", "list struct 0", "int", "list text");
        refusedGo(x, Check.STATE, 1, 0);
        refusedGo(x, Check.STATE, 9, 0);
        x.begin(0);
        for (int n = 1; n <= 4; n++) {
            refusedGo(x, Check.ELEMENT, 9, 0);
            refusedGo(x, Check.ELEMENT, 0, 0);
            refusedGo(x, Check.ARGUMENT, 3, 0);
            refusedGo(x, Check.ARGUMENT, 4, -1);
            refusedGo(x, Check.ELEMENT, 1, 0);
            refusedGo(x, Check.ELEMENT, 2, 0);
            x.number(3, n);
            if (n < 4) {
                x.open(n == 2 ? 2 : 1);
            }
        }
        while (x.back()) {
            continue;
        }
        for (int k : new int[] {-1, 1, 5, 256, Integer.MIN_VALUE, Integer.MAX_VALUE}) {
            refusedGo(x, Check.ELEMENT, 1, k);
        }
        x.go(1, 0);
        for (int k : new int[] {-1, 1, 4, 5, 256, Integer.MIN_VALUE, Integer.MAX_VALUE}) {
            refusedGo(x, Check.ELEMENT, 2, k);
        }
        Run deep = structOf("struct 0", "list struct 0", "byte");
        CHECK.same("five deep", Use.decode(deep, 0, 1,
                28, 28, 28, 28, 0, 25, 28, 0, 0, 0, 0, 0), 0);
        deep.go(1, 0);
        deep.go(1, 0);
        CHECK.passes("with three on the path", () -> deep.go(1, 0));
        refusedGo(deep, Check.ELEMENT, 9, 0);
        refusedGo(deep, Check.ARGUMENT, 3, 0);
        refusedGo(deep, Check.ELEMENT, 1, 1);
        refusedGo(deep, Check.ARGUMENT, 1, 0);
        refusedGo(deep, Check.ELEMENT, 2, 1);
        refusedGo(deep, Check.ARGUMENT, 2, 0);
    }

    // ---- Promise 9: back

    private static void backToTheOneBefore() {
        CHECK.of("The record before on the path is at hand: true");
        Run x = rootOf("struct 0", "byte");
        for (int n = 1; n <= 4; n++) {
            x.number(2, n);
            if (n < 4) {
                x.open(1);
            }
        }
        for (int n = 3; n >= 1; n--) {
            CHECK.yes("back()", x.back());
            CHECK.same("path", x.count(3), n);
            CHECK.same("the record at hand", x.value(2, 0), n);
        }
        CHECK.same("what was left is still there", x.size(1), 1);
    }

    private static void backStaysAtTheRoot() {
        CHECK.of("false when the root is, or there is none");
        Run none = new Run();
        CHECK.keeps("back() without a schema", none, () -> CHECK.no("back()", none.back()));
        Run x = structOf("struct 0", "byte");
        CHECK.keeps("back() without a root", x, () -> CHECK.no("back()", x.back()));
        x.begin(0);
        x.number(2, 1);
        CHECK.keeps("back() at the root", x, () -> CHECK.no("back()", x.back()));
        x.open(1);
        CHECK.yes("back() from the second", x.back());
        CHECK.keeps("back() at the root", x, () -> CHECK.no("back()", x.back()));
        Use.line(x, "struct");
        CHECK.keeps("back() behind a line", x, () -> CHECK.no("back()", x.back()));
    }

    // ---- Promises 16 to 18: size, value, letter

    private static void sizes() {
        CHECK.of("How many values a field of the record at hand has: a list its elements, others 1 "
                + "or 0");
        Run x = rootOf("int", "text", "struct 0", "list int", "list text", "list struct 0");
        for (int id = 1; id <= 6; id++) {
            CHECK.same("size(" + id + ") without a value", x.size(id), 0);
        }
        for (int n = 1; n <= 5; n++) {
            x.number(1, n);
            x.text(2);
            x.open(3);
            x.back();
            x.number(4, n);
            x.text(5);
            x.open(6);
            x.back();
            for (int id = 1; id <= 3; id++) {
                CHECK.same("size(" + id + ")", x.size(id), 1);
            }
            for (int id = 4; id <= 6; id++) {
                CHECK.same("size(" + id + ")", x.size(id), n);
            }
        }
        x.open(3);
        CHECK.same("size(4) of the record at hand", x.size(4), 0);
        Run read = structOf("list int");
        CHECK.same("an empty list is read", Use.decode(read, 0, 1, 25, 5, 0), 0);
        CHECK.same("its size", read.size(1), 0);
    }

    private static void sizeOfNothing() {
        CHECK.of("-1 when there is no root, or no such field");
        Run x = Use.schema("struct", "field 1 int", "struct", "field 2 int");
        for (int id : new int[] {1, 2, 0}) {
            CHECK.keeps("size", x, () -> CHECK.same("without a root", x.size(id), -1));
        }
        x.begin(0);
        x.number(1, 3);
        CHECK.same("size(1)", x.size(1), 1);
        CHECK.same("size(2) of another struct", x.size(2), -1);
        for (int id : NO_IDS) {
            CHECK.keeps("size", x, () -> CHECK.same("size(" + id + ")", x.size(id), -1));
        }
        Use.line(x, "struct");
        CHECK.same("behind a line", x.size(1), -1);
    }

    private static void values() {
        CHECK.of("Value k (0 for what is no list) of a flag, byte, short, int or long (or list of "
                + "such) of the record at hand, or the length of such a text.");
        Run x = rootOf("text", "list text", "list int", "int");
        Use.text(x, 1, "123456");
        CHECK.same("the longest text", x.value(1, 0), 6);
        x.text(1);
        CHECK.same("the shortest text", x.value(1, 0), 0);
        for (int n = 0; n < 5; n++) {
            Use.text(x, 2, "x".repeat(n));
            x.number(3, -n);
        }
        x.number(4, -77);
        for (int k = 0; k < 5; k++) {
            CHECK.same("text " + k, x.value(2, k), k);
            CHECK.same("number " + k, x.value(3, k), -k);
        }
        CHECK.keeps("value", x, () -> CHECK.same("no list", x.value(4, 0), -77));
    }

    private static void valueRefusesInItsOrder() {
        CHECK.of("IllegalArgumentException when it is a struct or list of structs; "
                + "NoSuchElementException when there is no such value.");
        Run x = structOf("struct 0", "list struct 0", "list int", "int", "text", "list text");
        refusedValue(x, Check.STATE, 1, 0);
        refusedValue(x, Check.STATE, 9, 0);
        x.begin(0);
        refusedValue(x, Check.ELEMENT, 9, 0);
        refusedValue(x, Check.ARGUMENT, 1, 0);
        refusedValue(x, Check.ARGUMENT, 2, 5);
        for (int id = 3; id <= 6; id++) {
            refusedValue(x, Check.ELEMENT, id, 0);
        }
        x.open(2);
        x.back();
        refusedValue(x, Check.ARGUMENT, 2, 0);
        x.number(4, 1);
        x.text(5);
        for (int n = 1; n <= 5; n++) {
            x.number(3, n);
            refusedValue(x, Check.ELEMENT, 3, n);
        }
        x.text(6);
        for (int k : NO_PLACES) {
            for (int id = 3; id <= 6; id++) {
                refusedValue(x, Check.ELEMENT, id, k);
            }
        }
        refusedValue(x, Check.ELEMENT, 4, 1);
        refusedValue(x, Check.ELEMENT, 5, 1);
        refusedValue(x, Check.ELEMENT, 6, 1);
        CHECK.same("the last of five", x.value(3, 4), 5);
    }

    private static void letters() {
        CHECK.of("The code of character i of text k of a field");
        Run x = rootOf("text", "list text");
        Use.text(x, 1, " bcde~");
        CHECK.same("the first", x.letter(1, 0, 0), 32);
        CHECK.same("the last", x.letter(1, 0, 5), 126);
        for (int n = 0; n < 5; n++) {
            Use.text(x, 2, "abcde" + n);
        }
        for (int k = 0; k < 5; k++) {
            CHECK.same("the first of text " + k, x.letter(2, k, 0), 'a');
            CHECK.same("the last of text " + k, x.letter(2, k, 5), '0' + k);
        }
    }

    private static void noLetters() {
        CHECK.of("-1 when there is none");
        Run none = new Run();
        noLetter(none, 1, 0, 0);
        Run x = structOf("text", "list text", "int", "struct 0", "list int");
        noLetter(x, 1, 0, 0);
        x.begin(0);
        noLetter(x, 1, 0, 0);
        noLetter(x, 2, 0, 0);
        Use.text(x, 1, "123456");
        Use.text(x, 1, "12");
        Use.text(x, 2, "123456");
        Use.text(x, 2, "");
        x.number(3, 65);
        x.number(5, 66);
        noLetter(x, 1, 0, 2);
        noLetter(x, 1, 1, 0);
        noLetter(x, 2, 0, 6);
        noLetter(x, 2, 1, 0);
        noLetter(x, 2, 2, 0);
        noLetter(x, 3, 0, 0);
        noLetter(x, 5, 0, 0);
        for (int place : NO_PLACES) {
            noLetter(x, 1, place, 0);
            noLetter(x, 1, 0, place);
            noLetter(x, 2, place, 0);
            noLetter(x, 2, 0, place);
        }
        for (int id : NO_IDS) {
            noLetter(x, id, 0, 0);
        }
        x.open(4);
        noLetter(x, 1, 0, 0);
        x.back();
        noLetter(x, 4, 0, 0);
        CHECK.same("the text is still there", x.letter(1, 0, 1), '2');
    }
}
