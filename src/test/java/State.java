/**
 * All that the face shows of an object, as one text. Each part is looked at on an object of its
 * own behind the same calls, as looking at a draft or a schema changes them.
 */
final class State {
    private static final int MOST_PATH = 4;

    private State() {
    }

    static String of(Run run) {
        StringBuilder seen = new StringBuilder();
        seen.append(counts(run.again()));
        seen.append(" bytes[").append(Use.bytes(run.again())).append(']');
        seen.append(path(run.again()));
        seen.append(tree(run.again()));
        seen.append(draft(run.again()));
        for (int s = 0; s < run.again().count(1); s++) {
            seen.append(struct(run.again(), s));
        }
        for (int form = 0; form <= 1; form++) {
            seen.append(encoded(run.again(), form));
        }
        return seen.toString();
    }

    private static String counts(Run x) {
        return "counts[" + x.count(0) + " " + x.count(1) + " " + x.count(2) + " " + x.count(3) + "]";
    }

    /** The record at hand and those before it on the path. */
    private static String path(Run x) {
        StringBuilder seen = new StringBuilder(" path");
        do {
            seen.append('[').append(record(x)).append(']');
        } while (x.back());
        return seen.toString();
    }

    private static String record(Run x) {
        StringBuilder seen = new StringBuilder();
        for (int id : x.ids()) {
            int size = x.size(id);
            seen.append(id).append(" has ").append(size).append(": ");
            for (int k = 0; k < size; k++) {
                seen.append(value(x, id, k)).append(' ');
            }
        }
        return seen.toString();
    }

    private static String value(Run x, int id, int k) {
        long[] told = new long[1];
        String thrown = Check.thrownBy(() -> told[0] = x.value(id, k));
        if (!thrown.equals(Check.NOTHING)) {
            return thrown;
        }
        StringBuilder seen = new StringBuilder();
        seen.append(told[0]);
        for (int i = 0; x.letter(id, k, i) >= 0; i++) {
            seen.append('/').append(x.letter(id, k, i));
        }
        return seen.toString();
    }

    /** Every record that go can reach from the root. */
    private static String tree(Run x) {
        while (x.back()) {
            continue;
        }
        return x.count(3) == 0 ? " no root" : " root" + branch(x);
    }

    private static String branch(Run x) {
        StringBuilder seen = new StringBuilder("[").append(record(x));
        if (x.count(3) < MOST_PATH) {
            for (int id : x.ids()) {
                for (int k = 0; Check.thrownBy(goTo(x, id, k)).equals(Check.NOTHING); k++) {
                    seen.append(branch(x));
                    x.back();
                }
            }
        }
        return seen.append(']').toString();
    }

    private static Runnable goTo(Run x, int id, int k) {
        return () -> x.go(id, k);
    }

    /** How long the draft is, and what it is as a line: the blanks behind it do not matter. */
    private static String draft(Run x) {
        int room = 0;
        while (x.write(' ')) {
            room++;
        }
        int[] read = new int[1];
        String thrown = Check.thrownBy(() -> read[0] = x.line());
        return " draft[room " + room + ", " + read[0] + " " + thrown + " " + counts(x) + "]";
    }

    /** The fields of a struct by what they take; the first text field takes the draft. */
    private static String struct(Run x, int s) {
        StringBuilder seen = new StringBuilder(" struct[");
        seen.append(x.begin(s)).append(' ');
        seen.append(Check.thrownBy(() -> x.encode(0)));
        for (int id : x.ids()) {
            seen.append(' ').append(id).append(": ").append(x.size(id));
            for (long v : new long[] {2, 1L << 31, 1L << 15, 1L << 7, 1}) {
                seen.append(' ').append(Check.thrownBy(() -> x.number(id, v)));
            }
            seen.append(' ').append(Check.thrownBy(() -> x.text(id)));
            String thrown = Check.thrownBy(() -> x.open(id));
            seen.append(' ').append(thrown);
            if (thrown.equals(Check.NOTHING)) {
                x.back();
            }
        }
        return seen.append(record(x)).append(']').toString();
    }

    private static String encoded(Run x, int form) {
        int[] told = new int[1];
        String thrown = Check.thrownBy(() -> told[0] = x.encode(form));
        return " form " + form + "[" + told[0] + " " + thrown + " " + Use.bytes(x) + "]";
    }
}
