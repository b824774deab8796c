import java.util.function.Function;

/** The edges of SCHEMA and LINES, of promises 1 to 3, and the last of an object's calls. */
final class SchemaEdgeTest {
    private static final Check CHECK = new Check("SchemaEdgeTest");

    public static void main(String[] args) {
        calls512();
        structs5();
        fields8();
        ids1To999();
        idsOfAStructDiffer();
        requiredOrNot();
        characters40();
        blanksBetweenWords();
        digitsOfAnId();
        types();
        digitOfAStruct();
        aNewObject();
        writeAppends();
        writeRefuses();
        lineEmptiesTheDraft();
        lineWithoutWords();
        lineThatIsNone();
        lineWith5Structs();
        lineWithoutStruct();
        lineWith8Fields();
        lineDropsTheRoot();
        CHECK.end();
    }

    /**
     * A line that is refused leaves everything as it was before it was written. It is tried on
     * another object behind the same calls, as many such lines would use up those of one.
     */
    private static void refusedLine(Run run, String due, String line) {
        Run x = run.again();
        CHECK.refused("the line '" + line + "'", due, x, () -> Use.line(x, line));
    }

    private static void noLine(Run x, String line) {
        refusedLine(x, Check.ARGUMENT, line);
    }

    private static void fieldLine(Run x, String line) {
        CHECK.same("the line '" + line + "'", Use.line(x, line), 2);
    }

    private static void calls512() {
        CHECK.of("An object is used for at most 512 calls after it has been made");
        lastCall("write", x -> x.write('~'), true);
        lastCall("line", Run::line, 1);
        lastCall("begin", x -> x.begin(0), true);
        lastCall("number", x -> Check.thrownBy(() -> x.number(1, -128)), Check.NOTHING);
        lastCall("text", x -> Check.thrownBy(() -> x.text(2)), Check.NOTHING);
        lastCall("open", x -> Check.thrownBy(() -> x.open(3)), Check.NOTHING);
        lastCall("go", x -> Check.thrownBy(() -> x.go(3, 0)), Check.NOTHING);
        lastCall("back", Run::back, true);
        lastCall("encode", x -> x.encode(1), 10);
        lastCall("clear", x -> Check.thrownBy(x::clear), Check.NOTHING);
        lastCall("feed", x -> x.feed(255), true);
        lastCall("decode", x -> x.decode(0, 0), 0);
        lastCall("count", x -> x.count(3), 2);
        lastCall("at", x -> x.at(3), 5);
        lastCall("size", x -> x.size(2), 1);
        lastCall("value", x -> x.value(1, 0), 7L);
        lastCall("letter", x -> x.letter(2, 0, 0), (int) ' ');
    }

    /** The 512th call is answered like any before it. */
    private static void lastCall(String what, Function<Run, Object> call, Object due) {
        Run x = Use.schema("struct", "field 1 byte", "field 2 text", "field 3 struct 0");
        x.begin(0);
        x.open(3);
        x.open(3);
        x.back();
        x.number(1, 7);
        Use.text(x, 2, " ");
        Use.feed(x, 3, 0, 1, 5, 0);
        Use.write(x, "struct");
        while (x.callsMade() < Run.MOST_CALLS - 1) {
            x.count(0);
        }
        CHECK.same(what + " as the 512th", String.valueOf(call.apply(x)), String.valueOf(due));
        CHECK.same("calls", x.callsMade(), 512);
    }

    private static void structs5() {
        CHECK.of("Up to 5 STRUCTS, numbered 0, 1, .. as they are made");
        Run x = new Run();
        for (int s = 0; s < 5; s++) {
            CHECK.no("begin(" + s + ") before its struct", x.begin(s));
            CHECK.same("struct " + s, Use.line(x, "struct"), 1);
            fieldLine(x, "field " + (s + 1) + " int");
            CHECK.yes("begin(" + s + ") behind its struct", x.begin(s));
        }
        refusedLine(x, Check.STATE, "struct");
        CHECK.same("structs", x.count(1), 5);
        CHECK.no("begin(5)", x.begin(5));
        for (int s = 0; s < 5; s++) {
            CHECK.yes("begin(" + s + ")", x.begin(s));
            for (int id = 1; id <= 5; id++) {
                CHECK.same("field " + id + " of " + s, x.size(id), id == s + 1 ? 0 : -1);
            }
        }
    }

    private static void fields8() {
        CHECK.of("each with up to 8 FIELDS");
        Run x = new Run();
        for (int s = 0; s < 2; s++) {
            Use.line(x, "struct");
            for (int f = 1; f <= 8; f++) {
                CHECK.same("fields before", x.count(2), f - 1);
                fieldLine(x, "field " + f + " int");
            }
            CHECK.same("fields", x.count(2), 8);
            refusedLine(x, Check.STATE, "field 9 int");
        }
        x.begin(0);
        for (int id = 0; id <= 9; id++) {
            CHECK.same("size(" + id + ")", x.size(id), id >= 1 && id <= 8 ? 0 : -1);
        }
    }

    private static void ids1To999() {
        CHECK.of("a field has an ID (1 .. 999");
        Run x = Use.schema("struct");
        noLine(x, "field 0 int");
        noLine(x, "field 00 int");
        noLine(x, "field 000 int");
        noLine(x, "field 1000 int");
        fieldLine(x, "field 1 int");
        fieldLine(x, "field 999 int");
        CHECK.same("fields", x.count(2), 2);
        x.begin(0);
        x.number(1, 11);
        x.number(999, 22);
        CHECK.same("field 1", x.value(1, 0), 11);
        CHECK.same("field 999", x.value(999, 0), 22);
        CHECK.same("field 0", x.size(0), -1);
        CHECK.same("field 1000", x.size(1000), -1);
    }

    private static void idsOfAStructDiffer() {
        CHECK.of("no two of a struct the same");
        Run x = Use.schema("struct", "field 7 byte", "field 8 int");
        noLine(x, "field 7 byte");
        noLine(x, "field 07 text");
        noLine(x, "field 007 struct 0 required");
        fieldLine(x, "field 70 byte");
        Use.line(x, "struct");
        fieldLine(x, "field 7 text");
        noLine(x, "field 7 byte");
        x.begin(0);
        CHECK.passes("field 7 of struct 0 is still a byte", () -> x.number(7, 1));
        x.begin(1);
        CHECK.passes("field 7 of struct 1 is a text", () -> x.text(7));
    }

    private static void requiredOrNot() {
        CHECK.of("and is REQUIRED or not");
        Run x = Use.schema("struct", "field 1 int", "struct", "field 1 int required");
        x.begin(0);
        CHECK.same("not required", x.encode(0), 1);
        x.begin(1);
        CHECK.refused("required", Check.STATE, x, () -> x.encode(0));
        for (String end : new String[] {"Required", "require", "requiredd", "required required",
            "required 1", "1 required", "optional"}) {
            noLine(x, "field 2 int " + end);
        }
    }

    private static void characters40() {
        CHECK.of("LINES have at most 40 characters");
        Run x = new Run();
        CHECK.same("40, the last of them a word's", Use.line(x, " ".repeat(34) + "struct"), 1);
        noLine(x, " ".repeat(35) + "struct");
        fieldLine(x, "field  999  list  struct  0  required   ");
        fieldLine(x, "        field 998 list struct 0 required");
        noLine(x, "         field 997 list struct 0 required");
        CHECK.same("41, of which the first 40 are a line",
                Use.line(x, " ".repeat(34) + "structs"), 1);
        CHECK.same("structs", x.count(1), 2);
    }

    private static void blanksBetweenWords() {
        CHECK.of("words with one or more blanks between (also before and behind)");
        Run x = Use.schema("struct", " struct", "struct ", "   struct   ");
        CHECK.same("structs", x.count(1), 4);
        fieldLine(x, "field 1 list struct 0 required");
        fieldLine(x, " field 2 list struct 0 required ");
        fieldLine(x, "  field  3  list  struct  0  required  ");
        fieldLine(x, "field     4     int");
        for (String line : new String[] {"field5 int", "field 5int", "field 5 listint",
            "field 5 struct0", "field 5 list struct0", "field 5 intrequired",
            "field 5 liststruct 0", "field 5 struct 0required", "fi eld 5 int", "field 5 in t",
            "st ruct"}) {
            noLine(x, line);
        }
    }

    private static void digitsOfAnId() {
        CHECK.of("I one to three digits");
        Run x = Use.schema("struct");
        fieldLine(x, "field 5 int");
        fieldLine(x, "field 06 int");
        fieldLine(x, "field 007 int");
        fieldLine(x, "field 80 int");
        fieldLine(x, "field 900 int");
        for (String id : new String[] {"", "0001", "1000", "1a", "a1", "-1", "+1", "1.", "/1", ":1",
            "one", "0x1", "12345678901234567890"}) {
            noLine(x, "field " + id + " int");
        }
        x.begin(0);
        for (int id : new int[] {5, 6, 7, 80, 900}) {
            CHECK.same("size(" + id + ")", x.size(id), 0);
        }
    }

    private static void types() {
        CHECK.of("T one of flag byte short int long text, or struct S, or list and one of the "
                + "former six, or list struct S");
        for (String type : new String[] {"flag", "byte", "short", "int", "long", "text",
            "struct 0"}) {
            Run x = Use.schema("struct");
            fieldLine(x, "field 1 " + type);
            fieldLine(x, "field 2 list " + type);
            fieldLine(x, "field 3 " + type + " required");
            fieldLine(x, "field 4 list " + type + " required");
            noLine(x, "field 5 list list " + type);
            noLine(x, "field 5 " + type + " list");
            noLine(x, "field 5 " + type + " " + type);
            noLine(x, "field 5 " + type.toUpperCase());
            noLine(x, "field 5 x" + type);
            noLine(x, "field 5 " + type + "x");
        }
        Run x = Use.schema("struct");
        for (String type : new String[] {"", "list", "list required", "required", "struct",
            "list struct", "struct required", "list struct required", "struct list 0", "boolean",
            "string", "double", "void", "field", "int 0", "list text 6"}) {
            noLine(x, "field 5 " + type);
        }
    }

    private static void digitOfAStruct() {
        CHECK.of("S one digit, the number of a struct (also of the latest one)");
        Run x = Use.schema("struct");
        fieldLine(x, "field 1 struct 0");
        noLine(x, "field 2 struct 1");
        Use.line(x, "struct");
        fieldLine(x, "field 1 struct 0");
        fieldLine(x, "field 2 struct 1");
        fieldLine(x, "field 3 list struct 1");
        for (String s : new String[] {"2", "3", "5", "9", "00", "01", "10", "-1", "+0", "x", "/",
            ":", "0x"}) {
            noLine(x, "field 4 struct " + s);
            noLine(x, "field 4 list struct " + s);
        }
        Run five = Use.schema("struct", "struct", "struct", "struct", "struct");
        fieldLine(five, "field 4 struct 4");
        noLine(five, "field 5 struct 5");
    }

    private static void aNewObject() {
        CHECK.of("No structs, no root, no bytes.");
        Run x = new Run();
        CHECK.same("structs", x.count(1), 0);
        CHECK.no("begin(0)", x.begin(0));
        CHECK.same("decode(0, 0)", x.decode(0, 0), -1);
        CHECK.same("root", x.count(3), 0);
        CHECK.throwing("encode(0)", Check.STATE, () -> x.encode(0));
        CHECK.same("bytes", x.count(0), 0);
        CHECK.same("at(0)", x.at(0), -1);
        CHECK.same("room of the draft", State.roomOfTheDraft(x), 40);
    }

    private static void writeAppends() {
        CHECK.of("Appends a character (32 .. 126) to the draft: true");
        for (int c = 0; c <= 65535; c++) {
            WireSchema x = new WireSchema();
            boolean isTaken = c >= 32 && c <= 126;
            if (x.write((char) c) != isTaken) {
                CHECK.same("write of " + c, Boolean.toString(!isTaken), Boolean.toString(isTaken));
            }
            String due = isTaken && c != 32 ? Check.ARGUMENT : Check.NOTHING;
            if (!Check.thrownBy(x::line).equals(due)) {
                CHECK.same("the draft behind a write of " + c, "another", due);
            }
        }
        Run x = Use.schema("struct", "field 1 list text");
        x.begin(0);
        for (int c = 32; c <= 126; c += 47) {
            x.write((char) c);
            x.text(1);
            CHECK.same("the character", x.letter(1, x.size(1) - 1, 0), c);
        }
    }

    private static void writeRefuses() {
        CHECK.of("false when there are 40, or it is none such");
        for (int length : new int[] {0, 1, 39, 40}) {
            Run x = new Run();
            Use.write(x, "x".repeat(length));
            for (int c : new int[] {0, 9, 10, 31, 127, 128, 160, 255, 256 + 's', 65535}) {
                CHECK.keeps("write of " + c, x, () -> CHECK.no("write", x.write((char) c)));
            }
        }
        Run x = new Run();
        Use.write(x, " ".repeat(39));
        CHECK.yes("the 40th", x.write(' '));
        CHECK.keeps("the 41st", x, () -> CHECK.no("the 41st", x.write('s')));
        CHECK.keeps("the 42nd", x, () -> CHECK.no("the 42nd", x.write(' ')));
        CHECK.same("it has no words", x.line(), 0);
        CHECK.yes("the first of the next", x.write('s'));
    }

    private static void lineEmptiesTheDraft() {
        CHECK.of("The draft is read as a line (it is empty then)");
        String[] lines = {"", " ", " ".repeat(40), "field 1 int", "nonsense", "struct",
            "field 1 int", "field 1 int"};
        String[] due = {"0", "0", "0", Check.STATE, Check.ARGUMENT, "1", "2", Check.ARGUMENT};
        Run x = new Run();
        for (int i = 0; i < lines.length; i++) {
            String line = lines[i];
            int[] read = new int[1];
            String thrown = Check.thrownBy(() -> read[0] = Use.line(x, line));
            String got = thrown.equals(Check.NOTHING) ? Integer.toString(read[0]) : thrown;
            CHECK.same("the line '" + line + "'", got, due[i]);
            CHECK.same("room behind '" + line + "'", State.roomOfTheDraft(x.again()), 40);
            CHECK.same("line() behind '" + line + "'", x.line(), 0);
        }
    }

    private static void lineWithoutWords() {
        CHECK.of("0 it has no words");
        Run x = Use.schema("struct", "field 1 int");
        x.begin(0);
        x.number(1, 5);
        for (int blanks : new int[] {0, 1, 2, 39, 40}) {
            CHECK.keeps(blanks + " blanks", x,
                    () -> CHECK.same(blanks + " blanks", Use.line(x, " ".repeat(blanks)), 0));
        }
        noLine(x, "x");
        noLine(x, " ".repeat(39) + "x");
        noLine(x, "x" + " ".repeat(39));
    }

    private static void lineThatIsNone() {
        CHECK.of("IllegalArgumentException when it is no line");
        String[] lines = {"x", "struct x", "x struct", "struct 0", "struct struct",
            "struct required", "Struct", "structs", "struc", "field", "field 1", "field int 1",
            "Field 1 int", "fields", "fiel 1 int", "x field 1 int", "field 1 int x", "1 int",
            "a b c d e f g h i j k l m n o p", "~", "field 1 struct 0 0", "list int",
            "x".repeat(40), "a b c d e f g h i j k l m n o p q r s t "};
        Run none = new Run();
        Run some = Use.schema("struct", "field 2 text");
        some.begin(0);
        Use.text(some, 2, "ab");
        some.feed(9);
        Run full = Use.schema("struct", "struct", "struct", "struct", "struct", "field 1 int",
                "field 2 int", "field 3 int", "field 4 int", "field 5 int", "field 6 int",
                "field 7 int", "field 8 int");
        for (String line : lines) {
            noLine(none, line);
            noLine(some, line);
            noLine(full, line);
        }
    }

    private static void lineWith5Structs() {
        CHECK.of("IllegalStateException when it is one, but there are 5 structs");
        Run x = Use.schema("struct", "struct", "struct", "struct");
        x.begin(3);
        CHECK.same("the fifth", Use.line(x, "struct"), 1);
        x.begin(4);
        refusedLine(x, Check.STATE, "struct");
        refusedLine(x, Check.STATE, "  struct  ");
        fieldLine(x, "field 1 struct 4");
        noLine(x, "struct 5");
    }

    private static void lineWithoutStruct() {
        CHECK.of("no struct yet");
        Run x = new Run();
        refusedLine(x, Check.STATE, "field 1 int");
        refusedLine(x, Check.STATE, "  field 999 list text required ");
        noLine(x, "field 0 int");
        noLine(x, "field 1 struct 0");
        Use.line(x, "struct");
        fieldLine(x, "field 1 int");
    }

    private static void lineWith8Fields() {
        CHECK.of("or 8 fields");
        Run x = Use.schema("struct");
        for (int f = 1; f <= 7; f++) {
            fieldLine(x, "field " + f + " int");
        }
        x.begin(0);
        fieldLine(x, "field 8 int");
        x.begin(0);
        refusedLine(x, Check.STATE, "field 9 int");
        refusedLine(x, Check.STATE, "field 999 struct 0 required");
        noLine(x, "field 8 int");
        noLine(x, "field 9 struct 1");
        noLine(x, "field 1000 int");
        CHECK.same("another struct", Use.line(x, "struct"), 1);
        fieldLine(x, "field 9 int");
    }

    private static void lineDropsTheRoot() {
        CHECK.of("A line that was read drops the root.");
        for (String line : new String[] {"struct", "field 2 int"}) {
            for (int path = 1; path <= 4; path++) {
                Run x = Use.schema("struct", "field 1 struct 0");
                x.begin(0);
                for (int n = 1; n < path; n++) {
                    x.open(1);
                }
                x.feed(0);
                noLine(x, "structs");
                CHECK.same("records on the path", x.count(3), path);
                Use.line(x, line);
                CHECK.same("records on the path behind " + line, x.count(3), 0);
                CHECK.same("size(1)", x.size(1), -1);
                CHECK.no("back()", x.back());
                CHECK.throwing("open(1)", Check.STATE, () -> x.open(1));
                CHECK.throwing("encode(0)", Check.STATE, () -> x.encode(0));
                CHECK.same("the bytes stay", Use.bytes(x), "0");
                CHECK.same("they can be read", x.decode(0, 0), 0);
                CHECK.same("a root again, without values", x.size(1), 0);
            }
        }
    }
}
