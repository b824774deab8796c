/** Promises 11, 12, 14 and 15: the bytes and the counts. */
final class BytesTest {
    private static final Check CHECK = new Check("BytesTest");

    public static void main(String[] args) {
        feedTakes120();
        clearLeavesNothing();
        atLooksAtOne();
        countsOfAll();
        CHECK.end();
    }

    private static void feedTakes120() {
        Run x = new Run();
        for (int b : new int[] {-1, 256, -256, 512, Integer.MAX_VALUE, Integer.MIN_VALUE}) {
            CHECK.no("feed(" + b + ")", x.feed(b));
        }
        CHECK.same("none of these", x.count(0), 0);
        for (int i = 0; i < 120; i++) {
            CHECK.yes("feed", x.feed(255 - i));
        }
        CHECK.no("the 121st", x.feed(0));
        CHECK.no("the 121st again", x.feed(1));
        CHECK.same("bytes", x.count(0), 120);
        CHECK.same("the first", x.at(0), 255);
        CHECK.same("the last", x.at(119), 136);
        CHECK.same("no more", x.at(120), -1);
    }

    private static void clearLeavesNothing() {
        Run x = Use.schema("struct", "field 1 byte");
        x.begin(0);
        x.number(1, 3);
        x.encode(0);
        Use.write(x, "str");
        x.clear();
        CHECK.same("no bytes", x.count(0), 0);
        CHECK.same("no first", x.at(0), -1);
        CHECK.same("the root stays", x.value(1, 0), 3);
        CHECK.same("the draft stays", Use.line(x, "uct"), 1);
        for (int i = 0; i < 120; i++) {
            x.feed(1);
        }
        x.clear();
        CHECK.yes("room again", x.feed(7));
        CHECK.same("one byte", Use.bytes(x), "7");
    }

    private static void atLooksAtOne() {
        Run x = new Run();
        Use.feed(x, 0, 255, 128);
        CHECK.same("at(0)", x.at(0), 0);
        CHECK.same("at(1)", x.at(1), 255);
        CHECK.same("at(2)", x.at(2), 128);
        CHECK.same("at(3)", x.at(3), -1);
        CHECK.same("at(-1)", x.at(-1), -1);
        CHECK.same("at(least)", x.at(Integer.MIN_VALUE), -1);
        CHECK.same("at(most)", x.at(Integer.MAX_VALUE), -1);
    }

    private static void countsOfAll() {
        Run x = Use.schema("struct", "field 1 int", "field 2 struct 0", "struct");
        CHECK.same("structs", x.count(1), 2);
        CHECK.same("fields of the latest", x.count(2), 0);
        Use.line(x, "field 5 int");
        CHECK.same("one field", x.count(2), 1);
        x.begin(0);
        x.open(2);
        CHECK.same("path", x.count(3), 2);
        CHECK.same("the latest struct, not that at hand", x.count(2), 1);
        Use.feed(x, 1, 2, 3);
        CHECK.same("bytes", x.count(0), 3);
        for (int what : new int[] {-1, 4, 5, Integer.MIN_VALUE, Integer.MAX_VALUE}) {
            CHECK.same("count(" + what + ")", x.count(what), -1);
        }
    }
}
