import java.math.BigInteger;

/** The edges of BYTES and of both forms as they are written, and of promise 10. */
final class WritingEdgeTest {
    private static final Check CHECK = new Check("WritingEdgeTest");

    public static void main(String[] args) {
        fieldsAndAnEnd();
        sixDeep();
        plainIds();
        plainNumbers();
        plainTexts();
        plainLists();
        denseFlags();
        denseSteps();
        denseFirstOfARecord();
        zigzags();
        varints();
        denseBytes();
        denseTexts();
        denseLists();
        encodeTellsHowMany();
        encodeReplacesBytes();
        encodeWithoutForm();
        encodeWithoutRoot();
        encodeLacking();
        encode120Plain();
        encode120Dense();
        encodeFarTooMany();
        CHECK.end();
    }

    private static void written(String what, Run x, int form, int... due) {
        CHECK.same(what + ", how many", x.encode(form), due.length);
        CHECK.same(what + ", count(0)", x.count(0), due.length);
        CHECK.same(what, Use.bytes(x), Row.told(due));
    }

    private static Run with(String type, long... numbers) {
        Run x = Use.schema("struct", "field 1 " + type);
        x.begin(0);
        for (long v : numbers) {
            x.number(1, v);
        }
        return x;
    }

    private static Run withTexts(String type, String... texts) {
        Run x = with(type);
        for (String text : texts) {
            Use.text(x, 1, text);
        }
        return x;
    }

    // ---- BYTES

    private static void fieldsAndAnEnd() {
        CHECK.of("A record is written as: its fields that have a value, in the order of their ids, "
                + "and behind them a byte 0.");
        Run x = Use.schema("struct", "field 8 byte", "field 7 byte", "field 6 byte", "field 5 byte",
                "field 4 byte", "field 3 byte", "field 2 byte", "field 1 byte");
        x.begin(0);
        written("none of eight", x, 0, 0);
        written("none of eight", x, 1, 0);
        x.number(8, 80);
        written("the last of eight", x, 0, 3, 0, 8, 80, 0);
        x.number(1, 10);
        written("the first too", x, 0, 3, 0, 1, 10, 3, 0, 8, 80, 0);
        for (int id = 7; id >= 2; id--) {
            x.number(id, 10 * id);
        }
        written("all eight", x, 1,
                19, 10, 19, 20, 19, 30, 19, 40, 19, 50, 19, 60, 19, 70, 19, 80, 0);
        Run inner = with("list struct 0");
        inner.open(1);
        inner.back();
        inner.open(1);
        written("records without values", inner, 1, 25, 0x2C, 0, 0, 0);
        Run bare = Use.schema("struct");
        bare.begin(0);
        written("a struct without fields", bare, 0, 0);
        written("a struct without fields", bare, 1, 0);
    }

    /** Only reading makes records so deep; the path goes down to the fourth. */
    private static void sixDeep() {
        CHECK.of("a struct as a record");
        Run x = Use.schema("struct", "field 1 struct 0", "field 2 list struct 0",
                "field 3 byte required");
        int[] plain = Row.join(Row.times(5, 12, 0, 1), Row.times(6, 3, 0, 3, 7, 0));
        int[] dense = Row.join(Row.times(5, 28), Row.of(0x33, 7, 0), Row.times(5, 0x23, 7, 0));
        CHECK.same("read", Use.decode(x, 0, 1, dense), 0);
        written("six deep, plain", x, 0, plain);
        written("six deep, dense", x, 1, dense);
        int[] lists = Row.join(Row.times(5, 41, 0x1C), Row.of(0x33, 7, 0), Row.times(5, 19, 7, 0));
        CHECK.same("read", Use.decode(x, 0, 1, lists), 0);
        written("six deep in lists", x, 1, lists);
    }

    // ---- PLAIN FORM

    private static void plainIds() {
        CHECK.of("its id (two bytes, 0 .. 65535)");
        int[][] ids = {{1, 0, 1}, {255, 0, 255}, {256, 1, 0}, {512, 2, 0}, {767, 2, 255},
            {999, 3, 231}};
        for (int[] id : ids) {
            Run x = Use.schema("struct", "field " + id[0] + " flag");
            x.begin(0);
            x.number(id[0], 0);
            written("id " + id[0], x, 0, 2, id[1], id[2], 0, 0);
        }
    }

    private static void plainNumbers() {
        CHECK.of("a flag and a byte one byte, a short two, an int four, a long eight, highest "
                + "first");
        written("flag 0", with("flag", 0), 0, 2, 0, 1, 0, 0);
        written("flag 1", with("flag", 1), 0, 2, 0, 1, 1, 0);
        written("byte -128", with("byte", -128), 0, 3, 0, 1, 128, 0);
        written("byte -1", with("byte", -1), 0, 3, 0, 1, 255, 0);
        written("byte 127", with("byte", 127), 0, 3, 0, 1, 127, 0);
        written("short -32768", with("short", -32768), 0, 6, 0, 1, 128, 0, 0);
        written("short 255", with("short", 255), 0, 6, 0, 1, 0, 255, 0);
        written("short 256", with("short", 256), 0, 6, 0, 1, 1, 0, 0);
        written("short 32767", with("short", 32767), 0, 6, 0, 1, 127, 255, 0);
        written("int least", with("int", Integer.MIN_VALUE), 0, 8, 0, 1, 128, 0, 0, 0, 0);
        written("int -1", with("int", -1), 0, 8, 0, 1, 255, 255, 255, 255, 0);
        written("int most", with("int", Integer.MAX_VALUE), 0, 8, 0, 1, 127, 255, 255, 255, 0);
        written("long least", with("long", Long.MIN_VALUE), 0,
                10, 0, 1, 128, 0, 0, 0, 0, 0, 0, 0, 0);
        written("long 2^32", with("long", 1L << 32), 0, 10, 0, 1, 0, 0, 0, 1, 0, 0, 0, 0, 0);
        written("long most", with("long", Long.MAX_VALUE), 0,
                10, 0, 1, 127, 255, 255, 255, 255, 255, 255, 255, 0);
    }

    private static void plainTexts() {
        CHECK.of("a text its length (four bytes) and its characters");
        written("empty", withTexts("text", ""), 0, 11, 0, 1, 0, 0, 0, 0, 0);
        written("one", withTexts("text", " "), 0, 11, 0, 1, 0, 0, 0, 1, 32, 0);
        written("six", withTexts("text", "~~~~~ "), 0,
                11, 0, 1, 0, 0, 0, 6, 126, 126, 126, 126, 126, 32, 0);
    }

    private static void plainLists() {
        CHECK.of("a list the wire type of its elements (one byte), how many (four bytes), and the "
                + "elements");
        int[] wires = {2, 3, 6, 8, 10};
        String[] types = {"flag", "byte", "short", "int", "long"};
        int[] widths = {1, 1, 2, 4, 8};
        for (int t = 0; t < types.length; t++) {
            Run x = with("list " + types[t]);
            written("no element yet", x, 0, 0);
            int[] one = Row.join(Row.times(widths[t] - 1, 0), Row.of(1));
            for (int n = 1; n <= 5; n++) {
                x.number(1, 1);
                written(n + " of " + types[t], x, 0, Row.join(Row.of(15, 0, 1, wires[t]),
                        Row.wide(n), Row.times(n, one), Row.of(0)));
            }
        }
        Run texts = with("list text");
        Run records = with("list struct 0");
        for (int n = 1; n <= 5; n++) {
            texts.text(1);
            written(n + " texts", texts, 0, Row.join(Row.of(15, 0, 1, 11), Row.wide(n),
                    Row.times(n, 0, 0, 0, 0), Row.of(0)));
            records.open(1);
            records.back();
            written(n + " records", records, 0, Row.join(Row.of(15, 0, 1, 12), Row.wide(n),
                    Row.times(n, 0), Row.of(0)));
        }
        Run read = with("list byte");
        Use.decode(read, 0, 1, 25, 3, 0);
        written("an empty list that was read", read, 0, 15, 0, 1, 3, 0, 0, 0, 0, 0);
    }

    // ---- DENSE FORM

    private static void denseFlags() {
        CHECK.of("a flag that is 1 is 1, a flag that is 0 is 2 (and has no value behind its head)");
        written("1", with("flag", 1), 1, 17, 0);
        written("0", with("flag", 0), 1, 18, 0);
        Run far = Use.schema("struct", "field 16 flag", "field 99 flag");
        far.begin(0);
        far.number(16, 1);
        far.number(99, 0);
        written("with ids", far, 1, 1, 32, 2, 198, 1, 0);
    }

    private static void denseSteps() {
        CHECK.of("if that difference is 1 .. 15; otherwise the wire type, and the id as a ZIGZAG");
        for (int before : new int[] {1, 15, 50, 900}) {
            for (int step : new int[] {1, 2, 14, 15, 16, 17, 31, 32}) {
                int id = before + step;
                Run x = Use.schema("struct", "field " + before + " byte", "field " + id + " byte");
                x.begin(0);
                x.number(before, 1);
                x.number(id, 2);
                written("a step of " + step, x, 1,
                        Row.join(head(3, 0, before), Row.of(1), head(3, before, id), Row.of(2, 0)));
            }
        }
        Run x = Use.schema("struct", "field 1 byte", "field 8 byte", "field 17 byte");
        x.begin(0);
        x.number(1, 1);
        x.number(17, 2);
        written("from 1 to 17, with nothing in 8", x, 1, 19, 1, 3, 34, 2, 0);
        x.number(8, 3);
        written("from 8 to 17", x, 1, 19, 1, 0x73, 3, 0x93, 2, 0);
    }

    private static int[] head(int wire, int before, int id) {
        int step = id - before;
        if (step >= 1 && step <= 15) {
            return Row.of(16 * step + wire);
        }
        return Row.join(Row.of(wire), id < 64 ? Row.of(2 * id) : Row.varint(2L * id, 2));
    }

    private static void denseFirstOfARecord() {
        CHECK.of("16 * (id - id of the field before in the record, 0 for the first) + wire type");
        for (int id : new int[] {1, 14, 15, 16, 17, 63, 64, 999}) {
            Run x = Use.schema("struct", "field " + id + " struct 0");
            x.begin(0);
            x.open(id);
            x.open(id);
            int[] head = head(12, 0, id);
            written("the first is " + id, x, 1, Row.join(head, head, Row.of(0, 0, 0)));
        }
        Run x = Use.schema("struct", "field 20 struct 0", "field 21 byte", "field 1 byte");
        x.begin(0);
        x.open(20);
        x.number(21, 1);
        x.back();
        x.number(21, 2);
        written("behind a record, from the field before", x, 1, 12, 40, 3, 42, 1, 0, 19, 2, 0);
    }

    private static void zigzags() {
        CHECK.of("A ZIGZAG of n is the VARINT of 2 * n for n from 0 on, of -2 * n - 1 below");
        long[] values = {0, 1, -1, 2, -2, 63, -64, Integer.MAX_VALUE, Integer.MIN_VALUE,
            Long.MAX_VALUE, Long.MIN_VALUE, Long.MAX_VALUE - 1, Long.MIN_VALUE + 1};
        for (long v : values) {
            written("long " + v, with("long", v), 1, Row.join(Row.of(22), zigzag(v), Row.of(0)));
            written("long " + v, with("list long", v), 1,
                    Row.join(Row.of(25, 0x16), zigzag(v), Row.of(0)));
        }
        for (long v : new long[] {0, -1, 32767, -32768}) {
            written("short " + v, with("short", v), 1, Row.join(Row.of(20), zigzag(v), Row.of(0)));
        }
        for (long v : new long[] {0, -1, Integer.MAX_VALUE, Integer.MIN_VALUE}) {
            written("int " + v, with("int", v), 1, Row.join(Row.of(21), zigzag(v), Row.of(0)));
        }
    }

    /** By the document's words, in numbers that do not wrap. */
    private static int[] zigzag(long v) {
        BigInteger n = BigInteger.valueOf(v).multiply(BigInteger.TWO);
        BigInteger left = v >= 0 ? n : n.negate().subtract(BigInteger.ONE);
        int[] all = {};
        while (left.bitLength() > 7) {
            all = Row.join(all, Row.of(left.intValue() & 127 | 128));
            left = left.shiftRight(7);
        }
        return Row.join(all, Row.of(left.intValue()));
    }

    private static void varints() {
        CHECK.of("a VARINT is a row of bytes with seven bits each, the lowest first, each but the "
                + "last plus 128, as short as can be");
        for (int bytes = 1; bytes <= 9; bytes++) {
            long most = (1L << 7 * bytes - 1) - 1;
            int[] full = Row.times(bytes - 1, 255);
            int[] more = Row.times(bytes - 1, 128);
            written(bytes + " bytes, the most", with("long", most), 1,
                    Row.join(Row.of(22, bytes == 1 ? 126 : 254), bytes == 1 ? Row.of() : Row.join(
                            Row.times(bytes - 2, 255), Row.of(127)), Row.of(0)));
            written(bytes + " bytes, the least", with("long", -most - 1), 1,
                    Row.join(Row.of(22), full, Row.of(127, 0)));
            written(bytes + 1 + " bytes, the least above", with("long", most + 1), 1,
                    Row.join(Row.of(22, 128), more, Row.of(1, 0)));
            written(bytes + 1 + " bytes, the most below", with("long", -most - 2), 1,
                    Row.join(Row.of(22, 129), more, Row.of(1, 0)));
        }
        written("ten bytes", with("long", Long.MIN_VALUE), 1,
                Row.join(Row.of(22), Row.times(9, 255), Row.of(1, 0)));
    }

    private static void denseBytes() {
        CHECK.of("A byte is one byte");
        for (int v : new int[] {-128, -1, 0, 1, 127}) {
            written("byte " + v, with("byte", v), 1, 19, v & 255, 0);
            written("bytes " + v, with("list byte", v, v), 1, 25, 0x23, v & 255, v & 255, 0);
        }
    }

    private static void denseTexts() {
        CHECK.of("a text the varint of its length and its characters");
        written("empty", withTexts("text", ""), 1, 24, 0, 0);
        written("six", withTexts("text", " ~~~~~"), 1, 24, 6, 32, 126, 126, 126, 126, 126, 0);
        written("both in a list", withTexts("list text", "", "123456"), 1,
                25, 0x28, 0, 6, 49, 50, 51, 52, 53, 54, 0);
    }

    private static void denseLists() {
        CHECK.of("a list 16 * how many + the wire type of its elements (1 for flags) and the "
                + "elements, where a flag is a byte 1 or 2");
        int[] wires = {1, 3, 4, 5, 6};
        String[] types = {"flag", "byte", "short", "int", "long"};
        for (int t = 0; t < types.length; t++) {
            Run x = with("list " + types[t]);
            for (int n = 1; n <= 5; n++) {
                x.number(1, 0);
                written(n + " of " + types[t], x, 1, Row.join(Row.of(25, 16 * n + wires[t]),
                        Row.times(n, t == 0 ? 2 : 0), Row.of(0)));
            }
        }
        written("flags", with("list flag", 1, 0, 1, 1, 0), 1, 25, 0x51, 1, 2, 1, 1, 2, 0);
        Run records = with("list struct 0");
        for (int n = 1; n <= 5; n++) {
            records.open(1);
            records.back();
            written(n + " records", records, 1,
                    Row.join(Row.of(25, 16 * n + 12), Row.times(n, 0), Row.of(0)));
        }
        int[] heads = {1, 2, 3, 4, 5, 6, 8, 12};
        String[] read = {"flag", "flag", "byte", "short", "int", "long", "text", "struct 0"};
        for (int i = 0; i < heads.length; i++) {
            Run x = with("list " + read[i]);
            Use.decode(x, 0, 1, 25, heads[i], 0);
            written("an empty list that was read", x, 1, 25, heads[i] == 2 ? 1 : heads[i], 0);
        }
    }

    // ---- Promise 10: encode

    private static void encodeTellsHowMany() {
        CHECK.of("The root is written in a form (0 plain, 1 dense): how many bytes there are.");
        Run x = Use.schema("struct", "field 1 struct 0", "field 2 long");
        x.begin(0);
        for (int n = 1; n < 4; n++) {
            x.open(1);
        }
        x.number(2, 1);
        String before = State.of(x);
        CHECK.same("plain", x.encode(0), 3 * 3 + 11 + 4);
        CHECK.same("dense", x.encode(1), 3 + 2 + 4);
        CHECK.same("count(0)", x.count(0), 9);
        CHECK.same("the fourth is still at hand", x.count(3), 4);
        x.clear();
        CHECK.same("and all else but the bytes is as it was", State.of(x), before);
    }

    private static void encodeReplacesBytes() {
        CHECK.of("how many bytes there are");
        Run x = with("byte", 5);
        for (int i = 0; i < 120; i++) {
            x.feed(255);
        }
        written("in the stead of 120", x, 1, 19, 5, 0);
        CHECK.same("none behind", x.at(3), -1);
        CHECK.yes("room again", x.feed(7));
        CHECK.same("a byte behind", Use.bytes(x), "19 5 0 7");
        written("again", x, 0, 3, 0, 1, 5, 0);
    }

    private static void encodeWithoutForm() {
        CHECK.of("IllegalArgumentException when there is no such form");
        Run none = new Run();
        Run lacking = with("int required");
        Run right = with("int", 1);
        Run large = withTooMany();
        for (Run x : new Run[] {none, lacking, right, large}) {
            x.feed(9);
            for (int form : new int[] {-1, 2, 3, 256, 65536, Integer.MIN_VALUE,
                Integer.MAX_VALUE}) {
                CHECK.refused("encode(" + form + ")", Check.ARGUMENT, x, () -> x.encode(form));
            }
        }
    }

    private static Run withTooMany() {
        Run x = Use.schema("struct", "field 1 list long", "field 2 list long", "field 3 list long");
        x.begin(0);
        for (int n = 0; n < 5; n++) {
            for (int id = 1; id <= 3; id++) {
                x.number(id, Long.MIN_VALUE);
            }
        }
        return x;
    }

    private static void refusedEncode(String what, Run x) {
        CHECK.refused("encode(0), " + what, Check.STATE, x, () -> x.encode(0));
        CHECK.refused("encode(1), " + what, Check.STATE, x, () -> x.encode(1));
    }

    private static void encodeWithoutRoot() {
        CHECK.of("IllegalStateException when there is no root");
        Run none = new Run();
        refusedEncode("a new object", none);
        none.feed(7);
        refusedEncode("a byte", none);
        Run x = with("int", 1);
        x.encode(0);
        Use.line(x, "struct");
        refusedEncode("the root was dropped", x);
        CHECK.same("the old bytes", Use.bytes(x), "8 0 1 0 0 0 1 0");
        x.begin(1);
        CHECK.same("a root again", x.encode(0), 1);
    }

    private static void encodeLacking() {
        CHECK.of("some record of it lacks something");
        Run x = Use.schema("struct", "field 1 struct 0", "field 2 list struct 0",
                "field 3 flag required");
        x.begin(0);
        x.feed(1);
        refusedEncode("the root", x);
        x.number(3, 0);
        CHECK.same("the root has it", x.encode(1), 2);
        x.open(1);
        refusedEncode("a record in a field", x);
        x.number(3, 0);
        CHECK.same("it has it", x.encode(1), 5);
        for (int n = 1; n <= 5; n++) {
            x.open(2);
            refusedEncode("element " + n, x);
            x.number(3, 1);
            CHECK.same("it has it", x.encode(1), 7 + 2 * n);
            x.back();
        }
        x.open(1);
        x.number(3, 1);
        x.open(1);
        refusedEncode("the fourth on the path", x);
        x.number(3, 1);
        CHECK.passes("it has it", () -> x.encode(0));
        Run list = with("list int required");
        refusedEncode("a list without elements", list);
        list.number(1, 0);
        CHECK.same("one element", list.encode(1), 4);
        Run text = with("text required");
        refusedEncode("no text", text);
        text.text(1);
        CHECK.same("an empty text", text.encode(1), 3);
    }

    /** Two lists of 5 longs and one of 5 bytes take 109 bytes, a list of n bytes 8 + n. */
    private static void encode120Plain() {
        CHECK.of("or there would be more than 120");
        Run x = Use.schema("struct", "field 1 list long", "field 2 list long", "field 3 list byte",
                "field 4 list byte");
        x.begin(0);
        for (int n = 0; n < 5; n++) {
            x.number(1, n);
            x.number(2, n);
            x.number(3, n);
        }
        x.number(4, 33);
        CHECK.same("119", x.encode(0), 119);
        x.number(4, 44);
        CHECK.same("120", x.encode(0), 120);
        CHECK.same("the last", x.at(118) + " " + x.at(119) + " " + x.at(120), "44 0 -1");
        x.number(4, 55);
        Run y = x.again();
        CHECK.refused("121", Check.STATE, y, () -> y.encode(0));
        CHECK.same("bytes", x.count(0), 120);
        CHECK.passes("dense, it is short", () -> x.encode(1));
    }

    /** The longest longs take ten bytes; a flag takes one. */
    private static void encode120Dense() {
        CHECK.of("or there would be more than 120");
        Run x = Use.schema("struct", "field 1 list long", "field 2 list long", "field 3 list byte",
                "field 4 list byte", "field 5 flag", "field 6 flag");
        x.begin(0);
        for (int n = 0; n < 5; n++) {
            x.number(1, Long.MIN_VALUE);
            x.number(2, Long.MIN_VALUE);
            x.number(3, n);
            x.number(4, n);
        }
        CHECK.same("119", x.encode(1), 119);
        x.number(5, 1);
        CHECK.same("120", x.encode(1), 120);
        CHECK.same("the last", x.at(118) + " " + x.at(119) + " " + x.at(120), "17 0 -1");
        x.number(6, 1);
        Run y = x.again();
        CHECK.refused("121", Check.STATE, y, () -> y.encode(1));
        CHECK.same("bytes", x.count(0), 120);
    }

    private static void encodeFarTooMany() {
        CHECK.of("(the old ones stay)");
        Run x = withTooMany();
        Use.feed(x, 1, 2, 3);
        refusedEncode("far too many", x);
        CHECK.same("the old ones", Use.bytes(x), "1 2 3");
        Run wide = Use.schema("struct", "field 1 list struct 0", "field 2 list long");
        wide.begin(0);
        Use.feed(wide, 4, 5);
        for (int n = 0; n < 5; n++) {
            wide.open(1);
            for (int k = 0; k < 5; k++) {
                wide.number(2, Long.MIN_VALUE);
            }
            wide.back();
        }
        refusedEncode("five records of five longs", wide);
        CHECK.same("the old ones", Use.bytes(wide), "4 5");
    }
}
