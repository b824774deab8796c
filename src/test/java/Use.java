/** Rows of calls that many tests need. */
final class Use {
    private Use() {
    }

    static void write(Run x, String draft) {
        for (int i = 0; i < draft.length(); i++) {
            x.write(draft.charAt(i));
        }
    }

    static int line(Run x, String line) {
        write(x, line);
        return x.line();
    }

    static Run schema(String... lines) {
        Run x = new Run();
        for (String line : lines) {
            line(x, line);
        }
        return x;
    }

    static void text(Run x, int id, String draft) {
        write(x, draft);
        x.text(id);
    }

    static void feed(Run x, int... bytes) {
        x.clear();
        for (int b : bytes) {
            if (!x.feed(b)) {
                throw new AssertionError("a byte of the test was not taken: " + b);
            }
        }
    }

    static int decode(Run x, int struct, int form, int... bytes) {
        feed(x, bytes);
        return x.decode(struct, form);
    }

    static String bytes(Run x) {
        StringBuilder row = new StringBuilder();
        for (int i = 0; i < x.count(0); i++) {
            row.append(i == 0 ? "" : " ").append(x.at(i));
        }
        return row.toString();
    }

    /** The texts of a field of the record at hand, each behind a stroke. */
    static String texts(Run x, int id) {
        StringBuilder all = new StringBuilder();
        for (int k = 0; k < x.size(id); k++) {
            all.append('/');
            for (int i = 0; i < x.value(id, k); i++) {
                all.append((char) x.letter(id, k, i));
            }
        }
        return all.toString();
    }

    static String values(Run x, int id) {
        StringBuilder all = new StringBuilder();
        for (int k = 0; k < x.size(id); k++) {
            all.append(k == 0 ? "" : " ").append(x.value(id, k));
        }
        return all.toString();
    }
}
