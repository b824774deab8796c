/**
 * All that the face shows of an object, as one text. Each part is looked at on an object of its
 * own behind the same calls, as looking at a draft or a schema changes them.
 */
final class State {
    private static final int MOST_DRAFT = 40;
    private static final int MOST_PATH = 4;

    private State() {
    }

    static String of(Run run) {
        return counts(run.again()) + bytes(run) + records(run) + draft(run) + schema(run);
    }

    static String bytes(Run run) {
        return " bytes[" + Use.bytes(run.again()) + "]";
    }

    /** The root with all that is in it, and the path. */
    static String records(Run run) {
        StringBuilder seen = new StringBuilder();
        seen.append(path(run.again()));
        seen.append(tree(run.again()));
        for (int form = 0; form <= 1; form++) {
            seen.append(encoded(run.again(), form));
        }
        return seen.toString();
    }

    static String draft(Run run) {
        int room = roomOfTheDraft(run.again());
        String text = room == MOST_DRAFT ? "" : textOfTheDraft(run);
        return " draft[room " + room + ", " + text + lineOfTheDraft(run.again()) + "]";
    }

    static String schema(Run run) {
        StringBuilder seen = new StringBuilder();
        for (int s = 0; s < run.again().count(1); s++) {
            seen.append(struct(run.again(), s));
        }
        return seen.append(' ').append(run.again().count(2)).toString();
    }

    private static String counts(Run x) {
        return "counts[" + x.count(0) + " " + x.count(1) + " " + x.count(2) + " " + x.count(3)
                + "]";
    }

    /** The record at hand and those before it on the path. */
    private static String path(Run x) {
        StringBuilder seen = new StringBuilder(" path");
        do {
            seen.append('[').append(record(x)).append(']');
        } while (x.back());
        return seen.toString();
    }

    private static String record(Run x) {
        StringBuilder seen = new StringBuilder();
        for (int id : x.ids()) {
            int size = x.size(id);
            seen.append(id).append(" has ").append(size).append(": ");
            for (int k = 0; k < size; k++) {
                seen.append(value(x, id, k)).append(' ');
            }
        }
        return seen.toString();
    }

    private static String value(Run x, int id, int k) {
        long[] told = new long[1];
        String thrown = Check.thrownBy(() -> told[0] = x.value(id, k));
        if (!thrown.equals(Check.NOTHING)) {
            return thrown;
        }
        StringBuilder seen = new StringBuilder();
        seen.append(told[0]);
        for (int i = 0; x.letter(id, k, i) >= 0; i++) {
            seen.append('/').append(x.letter(id, k, i));
        }
        return seen.toString();
    }

    /** Every record that go can reach from the root. */
    private static String tree(Run x) {
        while (x.back()) {
            continue;
        }
        return x.count(3) == 0 ? " no root" : " root" + branch(x);
    }

    private static String branch(Run x) {
        StringBuilder seen = new StringBuilder("[").append(record(x));
        if (x.count(3) < MOST_PATH) {
            for (int id : x.ids()) {
                for (int k = 0; Check.thrownBy(goTo(x, id, k)).equals(Check.NOTHING); k++) {
                    seen.append(branch(x));
                    x.back();
                }
            }
        }
        return seen.append(']').toString();
    }

    private static Runnable goTo(Run x, int id, int k) {
        return () -> x.go(id, k);
    }

    static int roomOfTheDraft(Run x) {
        int room = 0;
        while (x.write(' ')) {
            room++;
        }
        return room;
    }

    /** The draft as the first text field that takes it shows it. */
    private static String textOfTheDraft(Run run) {
        for (int s = 0; s < run.again().count(1); s++) {
            for (int id : run.ids()) {
                Run x = run.again();
                x.begin(s);
                if (Check.thrownBy(() -> x.text(id)).equals(Check.NOTHING)) {
                    return Use.texts(x, id);
                }
            }
        }
        return "";
    }

    private static String lineOfTheDraft(Run x) {
        int[] read = new int[1];
        String thrown = Check.thrownBy(() -> read[0] = x.line());
        return " " + read[0] + " " + thrown + " " + x.count(1) + " " + x.count(2);
    }

    /** The fields of a struct by what they take, with an empty draft. */
    private static String struct(Run x, int s) {
        Check.thrownBy(() -> x.text(0));
        StringBuilder seen = new StringBuilder(" struct[");
        seen.append(x.begin(s)).append(' ');
        seen.append(Check.thrownBy(() -> x.encode(0)));
        for (int id : x.ids()) {
            seen.append(' ').append(id).append(": ").append(x.size(id));
            for (long v : new long[] {2, 1L << 31, 1L << 15, 1L << 7, 1}) {
                seen.append(' ').append(Check.thrownBy(() -> x.number(id, v)));
            }
            seen.append(' ').append(Check.thrownBy(() -> x.text(id)));
            String thrown = Check.thrownBy(() -> x.open(id));
            seen.append(' ').append(thrown);
            if (thrown.equals(Check.NOTHING)) {
                x.back();
            }
        }
        return seen.append(record(x)).append(']').toString();
    }

    private static String encoded(Run x, int form) {
        int[] told = new int[1];
        String thrown = Check.thrownBy(() -> told[0] = x.encode(form));
        String bytes = thrown.equals(Check.NOTHING) ? Use.bytes(x) : thrown;
        return " form " + form + "[" + told[0] + ": " + bytes + "]";
    }
}
