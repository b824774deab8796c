/** Promises 2 and 3: the draft and its lines. */
final class LineTest {
    private static final Check CHECK = new Check("LineTest");

    public static void main(String[] args) {
        draftTakesFortyPrintableCharacters();
        linesOfAllTypes();
        blanksDoNotMatter();
        refusedLines();
        idsOfOneStruct();
        structNumbers();
        limitsAreStates();
        draftIsEmptyBehindEveryLine();
        wordsOfALongerLineAreGone();
        whatDropsTheRoot();
        CHECK.end();
    }

    private static void draftTakesFortyPrintableCharacters() {
        Run x = new Run();
        for (int c : new int[] {0, 9, 10, 31, 127, 160, 255, 256 + 's', 65535}) {
            CHECK.no("write of " + c, x.write((char) c));
        }
        CHECK.same("line() when nothing was appended", x.line(), 0);
        CHECK.yes("write of 32", x.write(' '));
        CHECK.yes("write of 126", x.write('~'));
        CHECK.throwing("a tilde", Check.ARGUMENT, x::line);
        Use.write(x, " ".repeat(34));
        for (char c : "struct".toCharArray()) {
            CHECK.yes("write up to 40", x.write(c));
        }
        CHECK.no("the 41st", x.write('s'));
        CHECK.no("the 41st, a blank", x.write(' '));
        CHECK.same("a line of 40", x.line(), 1);
        CHECK.yes("write behind a line", x.write('s'));
    }

    private static void linesOfAllTypes() {
        String[] types = {"flag", "byte", "short", "int", "long", "text", "struct 0"};
        for (String type : types) {
            Run x = Use.schema("struct");
            CHECK.same(type, Use.line(x, "field 1 " + type), 2);
            CHECK.same(type + " required", Use.line(x, "field 2 " + type + " required"), 2);
            CHECK.same("list " + type, Use.line(x, "field 3 list " + type), 2);
            CHECK.same("list required", Use.line(x, "field 4 list " + type + " required"), 2);
            CHECK.same("fields", x.count(2), 4);
            CHECK.same("structs", x.count(1), 1);
        }
    }

    private static void blanksDoNotMatter() {
        Run x = new Run();
        CHECK.same("blanks round struct", Use.line(x, "   struct  "), 1);
        CHECK.same("blanks in a field", Use.line(x, "  field   1  list   struct  0 required "), 2);
        CHECK.same("blanks alone", Use.line(x, "    "), 0);
        CHECK.same("40 blanks", Use.line(x, " ".repeat(40)), 0);
        CHECK.same("nothing", x.line(), 0);
        CHECK.same("fields", x.count(2), 1);
    }

    private static void refusedLines() {
        String[] lines = {
            "x", "Struct", "STRUCT", "structs", "struc", "struct struct", "struct 0", "struct x",
            "field", "field 1", "field int", "field int 1", "fields 1 int", "Field 1 int",
            "field 0 int", "field 00 int", "field 000 int", "field 1000 int", "field 0001 int",
            "field -1 int", "field +1 int", "field 1x int", "field x int", "field 1.0 int",
            "field 1 Int", "field 1 ints", "field 1 in", "field 1 double", "field 1 required",
            "field 1 int int", "field 1 int Required", "field 1 int required required",
            "field 1 int required x", "field 1 required int", "field 1 int 0", "field 1 text 6",
            "field 1 list", "field 1 list required", "field 1 list list", "field 1 list list int",
            "field 1 list int int", "field 1 list 0", "field 1 struct", "field 1 struct required",
            "field 1 struct 1", "field 1 struct 9", "field 1 struct 00", "field 1 struct x",
            "field 1 struct -1", "field 1 struct 0 0", "field 1 list struct", "field 1 struct0",
            "field 1 list struct 1", "field 1 struct list 0", "field1 int", "int", "required",
            "a b c d e f g h i j k l m n o p q r s t", ",", "field 1 int,"
        };
        for (String line : lines) {
            Run x = Use.schema("struct");
            CHECK.throwing(line, Check.ARGUMENT, () -> Use.line(x, line));
            CHECK.same("fields behind " + line, x.count(2), 0);
            CHECK.same("structs behind " + line, x.count(1), 1);
        }
    }

    private static void idsOfOneStruct() {
        Run x = Use.schema("struct");
        CHECK.same("999", Use.line(x, "field 999 int"), 2);
        CHECK.same("007", Use.line(x, "field 007 int"), 2);
        CHECK.throwing("7 again", Check.ARGUMENT, () -> Use.line(x, "field 7 text"));
        CHECK.throwing("07 again", Check.ARGUMENT, () -> Use.line(x, "field 07 text"));
        Use.line(x, "struct");
        CHECK.same("7 in another struct", Use.line(x, "field 7 text"), 2);
        x.begin(0);
        CHECK.same("7 was read of 007", x.size(7), 0);
        CHECK.same("999 was read", x.size(999), 0);
    }

    private static void structNumbers() {
        Run x = Use.schema("struct", "struct", "struct");
        for (int s = 0; s <= 2; s++) {
            CHECK.same("struct " + s, Use.line(x, "field " + (s + 1) + " struct " + s), 2);
        }
        CHECK.throwing("struct 3", Check.ARGUMENT, () -> Use.line(x, "field 4 struct 3"));
        Run none = new Run();
        CHECK.throwing("struct 0 of none", Check.ARGUMENT,
                () -> Use.line(none, "field 1 struct 0"));
    }

    private static void limitsAreStates() {
        Run x = new Run();
        CHECK.throwing("no struct yet", Check.STATE, () -> Use.line(x, "field 1 int"));
        CHECK.throwing("no line, no struct", Check.ARGUMENT, () -> Use.line(x, "field 0 int"));
        for (int s = 1; s <= 5; s++) {
            CHECK.same("struct " + s, Use.line(x, "struct"), 1);
            CHECK.same("structs", x.count(1), s);
            CHECK.same("fields of a new struct", x.count(2), 0);
        }
        CHECK.throwing("a sixth struct", Check.STATE, () -> Use.line(x, "struct"));
        CHECK.throwing("no line, 5 structs", Check.ARGUMENT, () -> Use.line(x, "struct 1"));
        for (int f = 1; f <= 8; f++) {
            CHECK.same("field " + f, Use.line(x, "field " + f + " struct 4"), 2);
            CHECK.same("fields", x.count(2), f);
        }
        CHECK.throwing("a ninth field", Check.STATE, () -> Use.line(x, "field 9 int"));
        CHECK.throwing("a taken id, 8 fields", Check.ARGUMENT, () -> Use.line(x, "field 8 int"));
        CHECK.throwing("no line, 8 fields", Check.ARGUMENT, () -> Use.line(x, "field 9 struct 5"));
        CHECK.same("structs at last", x.count(1), 5);
        CHECK.same("fields at last", x.count(2), 8);
    }

    private static void draftIsEmptyBehindEveryLine() {
        Run x = new Run();
        CHECK.throwing("a state", Check.STATE, () -> Use.line(x, "field 1 int"));
        CHECK.same("behind a state", x.line(), 0);
        CHECK.throwing("no line", Check.ARGUMENT, () -> Use.line(x, "nonsense"));
        CHECK.same("behind no line", x.line(), 0);
        CHECK.same("a struct", Use.line(x, "struct"), 1);
        CHECK.same("behind a struct", x.line(), 0);
        CHECK.same("a field", Use.line(x, "field 1 int"), 2);
        CHECK.same("behind a field", x.line(), 0);
    }

    /** A line is read by its own words alone, not by those of a longer one before. */
    private static void wordsOfALongerLineAreGone() {
        Run x = Use.schema("struct", "field 1 list struct 0 required");
        CHECK.same("four words", Use.line(x, "field 2 struct 0"), 2);
        CHECK.same("three words", Use.line(x, "field 3 int"), 2);
        CHECK.throwing("two words", Check.ARGUMENT, () -> Use.line(x, "field 4"));
        CHECK.same("six words", Use.line(x, "field 5 list struct 0 required"), 2);
        CHECK.throwing("four words", Check.ARGUMENT, () -> Use.line(x, "field 6 list struct"));
        CHECK.same("five words", Use.line(x, "field 6 list struct 0"), 2);
    }

    private static void whatDropsTheRoot() {
        Run x = Use.schema("struct", "field 1 int");
        x.begin(0);
        CHECK.throwing("no line", Check.ARGUMENT, () -> Use.line(x, "nonsense"));
        CHECK.same("no line leaves the root", x.count(3), 1);
        CHECK.same("no words", x.line(), 0);
        CHECK.same("a draft without words is no line, and leaves the root", x.count(3), 1);
        Use.line(x, "field 2 int");
        CHECK.same("a field drops the root", x.count(3), 0);
        CHECK.same("no size then", x.size(1), -1);
        CHECK.throwing("no number then", Check.STATE, () -> x.number(1, 1));
        x.begin(0);
        x.number(2, 5);
        Use.line(x, "struct");
        CHECK.same("a struct drops the root", x.count(3), 0);
        CHECK.throwing("nothing to encode then", Check.STATE, () -> x.encode(0));
        for (int s = 3; s <= 5; s++) {
            Use.line(x, "struct");
        }
        x.begin(0);
        CHECK.throwing("a sixth struct", Check.STATE, () -> Use.line(x, "struct"));
        CHECK.same("a refused line leaves the root", x.count(3), 1);
    }
}
