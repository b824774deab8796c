import java.util.ArrayList;
import java.util.List;
import java.util.TreeSet;
import java.util.function.Consumer;
import java.util.function.Function;

/**
 * An object in use. It counts the calls, of which the document promises 512, and keeps them, so
 * that they can be made again on a new object to look at what they have left behind.
 */
final class Run {
    static final int MOST_CALLS = 512;

    private final WireSchema object = new WireSchema();
    private final List<Function<WireSchema, ?>> calls = new ArrayList<>();
    private final TreeSet<Integer> ids = new TreeSet<>();
    private final StringBuilder draft = new StringBuilder();

    /** Another object behind the same calls. */
    Run again() {
        Run other = new Run();
        for (Function<WireSchema, ?> call : calls) {
            Check.thrownBy(() -> other.make(call));
        }
        other.ids.addAll(ids);
        other.draft.append(draft);
        return other;
    }

    private <T> T make(Function<WireSchema, T> call) {
        if (calls.size() == MOST_CALLS) {
            throw new AssertionError("the test makes more than 512 calls on one object");
        }
        calls.add(call);
        return call.apply(object);
    }

    private void does(Consumer<WireSchema> call) {
        make(x -> {
            call.accept(x);
            return null;
        });
    }

    int callsMade() {
        return calls.size();
    }

    /** The ids of all fields that were made, of whatever struct. */
    TreeSet<Integer> ids() {
        return ids;
    }

    boolean write(char c) {
        boolean taken = make(x -> x.write(c));
        if (taken) {
            draft.append(c);
        }
        return taken;
    }

    int line() {
        String[] words = draft.toString().trim().split(" +");
        draft.setLength(0);
        int answer = make(WireSchema::line);
        if (answer == 2) {
            ids.add(Integer.parseInt(words[1]));
        }
        return answer;
    }

    boolean begin(int struct) {
        return make(x -> x.begin(struct));
    }

    void number(int id, long v) {
        does(x -> x.number(id, v));
    }

    void text(int id) {
        draft.setLength(0);
        does(x -> x.text(id));
    }

    void open(int id) {
        does(x -> x.open(id));
    }

    void go(int id, int k) {
        does(x -> x.go(id, k));
    }

    boolean back() {
        return make(WireSchema::back);
    }

    int encode(int form) {
        return make(x -> x.encode(form));
    }

    void clear() {
        does(WireSchema::clear);
    }

    boolean feed(int b) {
        return make(x -> x.feed(b));
    }

    int decode(int struct, int form) {
        return make(x -> x.decode(struct, form));
    }

    int count(int what) {
        return make(x -> x.count(what));
    }

    int at(int i) {
        return make(x -> x.at(i));
    }

    int size(int id) {
        return make(x -> x.size(id));
    }

    long value(int id, int k) {
        return make(x -> x.value(id, k));
    }

    int letter(int id, int k, int i) {
        return make(x -> x.letter(id, k, i));
    }
}
