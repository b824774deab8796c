import java.lang.management.ManagementFactory;

/**
 * The dearest runs stay within the room of one run, 600,000 objects and 7.3 million fields and
 * elements: as an object takes 16 bytes at least and an element one, 7.3 million bytes are a bound
 * for both.
 */
final class RoomTest {
    private static final long ROOM = 7_300_000;
    private static final int CALLS = 512;
    private static final Check CHECK = new Check("RoomTest");

    public static void main(String[] args) {
        manyFlags();
        manyRecords();
        manyListsOfTexts();
        manyLines();
        CHECK.end();
    }

    private static long allocated() {
        return ((com.sun.management.ThreadMXBean) ManagementFactory.getThreadMXBean())
                .getThreadAllocatedBytes(Thread.currentThread().getId());
    }

    private static void readAgainAndAgain(String what, int[] bytes, String... lines) {
        long before = allocated();
        WireSchema x = new WireSchema();
        int calls = bytes.length;
        for (String line : lines) {
            for (char c : line.toCharArray()) {
                x.write(c);
            }
            x.line();
            calls += line.length() + 1;
        }
        for (int b : bytes) {
            x.feed(b);
        }
        for (; calls < CALLS; calls++) {
            CHECK.same(what, x.decode(0, 1), 0);
        }
        bounded(what, allocated() - before);
    }

    private static void bounded(String what, long used) {
        System.out.println("RoomTest: " + what + ": " + used + " bytes");
        CHECK.yes(what + " within the room", used < ROOM);
    }

    /** Rounds of one part in a record, closed by a byte 0. */
    private static int[] rounds(int... part) {
        int[] row = new int[119 / part.length * part.length + 1];
        for (int i = 0; i < row.length - 1; i++) {
            row[i] = part[i % part.length];
        }
        return row;
    }

    private static void manyFlags() {
        readAgainAndAgain("flags of many records",
                rounds(9, 16, 92, 17, 17, 17, 17, 0, 17, 17, 17, 17, 0, 17, 17, 17, 17, 0,
                        17, 17, 17, 17, 0, 17, 17, 17, 17, 0),
                "struct", "field 1 flag", "field 2 flag", "field 3 flag", "field 4 flag",
                "field 8 list struct 0");
    }

    private static void manyRecords() {
        readAgainAndAgain("many records", rounds(9, 2, 92, 0, 0, 0, 0, 0),
                "struct", "field 1 list struct 0");
    }

    private static void manyListsOfTexts() {
        readAgainAndAgain("lists of texts", rounds(9, 2, 8), "struct", "field 1 list text");
    }

    private static void manyLines() {
        long before = allocated();
        WireSchema x = new WireSchema();
        for (int calls = 0; calls < CALLS; calls++) {
            String thrown = calls % 2 == 0 ? Boolean.toString(x.write('x'))
                    : Check.thrownBy(x::line);
            CHECK.same("a refused line", thrown, calls % 2 == 0 ? "true" : Check.ARGUMENT);
        }
        bounded("refused lines", allocated() - before);
    }
}
