import java.util.ArrayList;
import java.util.List;
import java.util.Random;
import java.util.TreeMap;
import java.util.function.Supplier;

/** Long runs of calls of all kinds, always the same ones, each answer beside the model's. */
final class ModelTest {
    private static final int RUNS = 6000;
    private static final int CALLS = 512;
    private static final int[] IDS = {1, 2, 3, 15, 16, 17, 18, 31, 33, 40, 64, 900, 999};
    private static final String[] TYPES = {"flag", "byte", "short", "int", "long", "text"};
    private static final int[] PLAIN_WIRES = {2, 3, 6, 8, 10, 11, 12, 15};
    private static final int[] DENSE_WIRES = {1, 2, 3, 4, 5, 6, 8, 12, 9};
    private static final Check CHECK = new Check("ModelTest");
    /** How often each answer came, so that it shows whether the runs reach everything. */
    private static final TreeMap<String, Integer> SEEN = new TreeMap<>();

    private final Random random;
    private final int run;
    private final WireSchema program = new WireSchema();
    private final Model model = new Model();
    private final List<String> told = new ArrayList<>();
    /** The field lines that were taken, word by word, so that bytes can be made that fit them. */
    private final List<String[]> fieldsMade = new ArrayList<>();
    private int calls = 0;
    private boolean differs = false;

    private ModelTest(int run) {
        this.run = run;
        random = new Random(run);
    }

    public static void main(String[] args) {
        for (int run = 0; run < RUNS; run++) {
            new ModelTest(run).go();
        }
        for (String kind : new String[] {"decode 0", "decode -1", "decode -2", "decode -3",
            "decode -4", "line 0", "line 1", "line 2", "encode bytes"}) {
            CHECK.yes(kind + " was reached often", SEEN.getOrDefault(kind, 0) > RUNS / 10);
        }
        System.out.println("ModelTest: " + SEEN);
        CHECK.end();
    }

    private void go() {
        int structs = 1 + random.nextInt(3);
        for (int s = 0; s < structs; s++) {
            line("struct");
            int fields = 1 + random.nextInt(5);
            for (int f = 0; f < fields; f++) {
                line(fieldLine(s + 1));
            }
        }
        while (calls < CALLS && !differs) {
            step();
        }
    }

    private void step() {
        int kind = random.nextInt(100);
        if (kind < 2) {
            line(random.nextInt(4) == 0 ? oddLine() : fieldLine(3));
        } else if (kind < 8) {
            begin(struct());
        } else if (kind < 48) {
            fill();
        } else if (kind < 56) {
            encode(random.nextInt(20) == 0 ? 2 : random.nextInt(2));
        } else if (kind < 64) {
            decode();
        } else if (kind < 72) {
            feedRecord();
        } else if (kind < 74) {
            line("");
        } else {
            look();
        }
    }

    // ---- the calls, each on both

    private void same(String call, Supplier<Object> ofProgram, Supplier<Object> ofModel) {
        if (calls == CALLS || differs) {
            return;
        }
        calls++;
        String got = answer(ofProgram);
        String due = answer(ofModel);
        told.add(call + " " + got);
        note(call.split(" ")[0], got);
        CHECK.same("run " + run + ", call " + calls + ", " + call, got, due);
        if (!got.equals(due)) {
            differs = true;
            System.out.println(String.join("; ", told));
        }
    }

    private static String answer(Supplier<Object> call) {
        try {
            return String.valueOf(call.get());
        } catch (RuntimeException e) {
            return "throws." + e.getClass().getSimpleName();
        }
    }

    private static Supplier<Object> of(Runnable call) {
        return () -> {
            call.run();
            return "";
        };
    }

    private static void note(String name, String answer) {
        boolean isBytes = name.equals("encode") && !answer.startsWith("throws");
        if (isBytes || name.equals("decode") || name.equals("line")) {
            SEEN.merge(name + " " + (isBytes ? "bytes" : answer), 1, Integer::sum);
        }
    }

    private void write(String draft) {
        for (char c : draft.toCharArray()) {
            same("write " + (int) c, () -> program.write(c), () -> model.write(c));
        }
    }

    private void line(String line) {
        write(line);
        same("line", program::line, model::line);
        if (told.get(told.size() - 1).equals("line 2")) {
            fieldsMade.add(line.trim().split(" +"));
        }
    }

    private void begin(int struct) {
        same("begin " + struct, () -> program.begin(struct), () -> model.begin(struct));
    }

    private void encode(int form) {
        same("encode " + form, () -> program.encode(form), () -> model.encode(form));
        int n = model.count(0);
        for (int i = Math.max(0, n - 5); i <= n; i++) {
            at(i);
        }
    }

    private void at(int i) {
        same("at " + i, () -> program.at(i), () -> model.at(i));
    }

    private void feed(int b) {
        same("feed " + b, () -> program.feed(b), () -> model.feed(b));
    }

    private void decode() {
        decode(struct(), random.nextInt(20) == 0 ? -1 : random.nextInt(2));
    }

    private void decode(int struct, int form) {
        same("decode " + struct + " " + form,
                () -> program.decode(struct, form), () -> model.decode(struct, form));
    }

    private void fill() {
        int id = id();
        switch (random.nextInt(8)) {
            case 0:
            case 1:
            case 2:
                long v = number();
                same("number " + id + " " + v,
                        of(() -> program.number(id, v)), of(() -> model.number(id, v)));
                break;
            case 3:
                write(draft());
                same("text " + id, of(() -> program.text(id)), of(() -> model.text(id)));
                break;
            case 4:
            case 5:
                same("open " + id, of(() -> program.open(id)), of(() -> model.open(id)));
                break;
            case 6:
                int k = random.nextInt(4) - 1;
                same("go " + id + " " + k,
                        of(() -> program.go(id, k)), of(() -> model.go(id, k)));
                break;
            default:
                same("back", program::back, model::back);
        }
    }

    private void look() {
        int id = id();
        int k = random.nextInt(7) - 1;
        int i = random.nextInt(8) - 1;
        switch (random.nextInt(5)) {
            case 0:
                same("count " + k, () -> program.count(k), () -> model.count(k));
                break;
            case 1:
                at(random.nextInt(122) - 1);
                break;
            case 2:
                same("size " + id, () -> program.size(id), () -> model.size(id));
                break;
            case 3:
                same("value " + id + " " + k,
                        () -> program.value(id, k), () -> model.value(id, k));
                break;
            default:
                same("letter " + id + " " + k + " " + i,
                        () -> program.letter(id, k, i), () -> model.letter(id, k, i));
        }
    }

    private void feedRecord() {
        same("clear", of(program::clear), of(model::clear));
        int form = random.nextInt(2);
        List<Integer> row = new ArrayList<>();
        addRecord(form, 1, row);
        if (random.nextInt(4) == 0) {
            row.set(random.nextInt(row.size()), random.nextInt(256));
        }
        if (random.nextInt(12) == 0) {
            row.remove(random.nextInt(row.size()));
        }
        for (int b : row) {
            feed(b);
        }
        decode(struct(), random.nextInt(20) == 0 ? 1 - form : form);
        for (int n = 0; n < 12; n++) {
            look();
        }
    }

    // ---- what the calls are given

    private int struct() {
        return random.nextInt(20) == 0 ? random.nextInt(8) - 1
                : random.nextInt(Math.max(1, model.count(1)));
    }

    private int id() {
        if (random.nextInt(12) == 0) {
            return random.nextInt(1002) - 1;
        }
        for (int tries = 0; tries < 20; tries++) {
            int id = IDS[random.nextInt(IDS.length)];
            if (model.size(id) >= 0) {
                return id;
            }
        }
        return IDS[random.nextInt(IDS.length)];
    }

    private long number() {
        long edge = 1L << new int[] {0, 0, 1, 6, 7, 13, 15, 31, 62, 63}[random.nextInt(10)];
        long v = edge + random.nextInt(3) - 2;
        return random.nextBoolean() ? v : -v - 1;
    }

    private String draft() {
        StringBuilder draft = new StringBuilder();
        int length = random.nextInt(random.nextInt(4) == 0 ? 9 : 4);
        for (int i = 0; i < length; i++) {
            draft.append((char) (31 + random.nextInt(random.nextInt(5) == 0 ? 97 : 20) + 1));
        }
        return draft.toString();
    }

    private String fieldLine(int structs) {
        String type = random.nextInt(3) == 0 ? "struct " + random.nextInt(structs)
                : TYPES[random.nextInt(TYPES.length)];
        return "field " + IDS[random.nextInt(IDS.length)] + (random.nextInt(3) == 0 ? " list" : "")
                + " " + type + (random.nextInt(8) == 0 ? " required" : "");
    }

    private String oddLine() {
        String[] lines = {"", "  ", "struct", " struct 1", "field 0 int", "field 05  int ",
            "field 1 list list int", "field 2 struct 7", "struct", "field", "field 7 int x"};
        return lines[random.nextInt(lines.length)];
    }

    private void addRecord(int form, int depth, List<Integer> row) {
        int before = 0;
        int fields = random.nextInt(depth == 1 ? 5 : 3);
        for (int f = 0; f < fields && row.size() < 70; f++) {
            int id = random.nextInt(12) == 0 ? random.nextInt(70000) - 33000
                    : IDS[random.nextInt(IDS.length)];
            int wire = wire(form);
            int elementWire = wire(form);
            if (random.nextInt(3) > 0 && !fieldsMade.isEmpty()) {
                String[] words = fieldsMade.get(random.nextInt(fieldsMade.size()));
                boolean isList = words[2].equals("list");
                id = Integer.parseInt(words[1]);
                wire = wireOf(words[2], form);
                elementWire = isList ? wireOf(words[3], form) : 0;
            }
            if (form == 0) {
                row.add(wire);
                addWide(id, 2, row);
            } else if (id - before >= 1 && id - before <= 15) {
                row.add(16 * (id - before) + wire);
            } else {
                row.add(wire);
                addVarint(zigzag(id), row);
            }
            before = id;
            if (form == 0 || wire > 2) {
                addValue(form, wire, elementWire, depth, row);
            }
        }
        row.add(0);
    }

    private int wireOf(String type, int form) {
        int place = List.of("flag", "byte", "short", "int", "long", "text", "struct", "list")
                .indexOf(type);
        return form == 0 ? PLAIN_WIRES[place]
                : place == 0 ? 1 + random.nextInt(2) : DENSE_WIRES[place + 1];
    }

    private int wire(int form) {
        if (random.nextInt(80) == 0) {
            return random.nextInt(16);
        }
        return form == 0 ? PLAIN_WIRES[random.nextInt(PLAIN_WIRES.length)]
                : DENSE_WIRES[random.nextInt(DENSE_WIRES.length)];
    }

    private void addValue(int form, int wire, int elementWire, int depth, List<Integer> row) {
        if (wire == 12) {
            addRecord(form, depth + 1, row);
        } else if (wire == (form == 0 ? 15 : 9)) {
            addList(form, elementWire, depth, row);
        } else if (wire == (form == 0 ? 11 : 8)) {
            addText(form, row);
        } else if (form == 0) {
            addWide(wire == 2 ? random.nextInt(2) : number(),
                    wire < 4 ? 1 : wire < 8 ? 2 : wire < 10 ? 4 : 8, row);
        } else if (wire <= 3) {
            row.add(wire < 3 ? 1 + random.nextInt(2) : random.nextInt(256));
        } else {
            boolean small = random.nextInt(8) > 0;
            addVarint(zigzag(small ? random.nextInt(40000) - 20000 : number()), row);
        }
    }

    private void addList(int form, int wire, int depth, List<Integer> row) {
        int size = random.nextInt(random.nextInt(4) == 0 ? 9 : 3);
        if (form == 0) {
            row.add(wire);
            addWide(size, 4, row);
        } else {
            row.add(16 * size + wire);
        }
        for (int i = 0; i < size; i++) {
            addValue(form, wire, wire(form), depth + 1, row);
        }
    }

    private void addText(int form, List<Integer> row) {
        String text = draft();
        if (form == 0) {
            addWide(text.length(), 4, row);
        } else {
            addVarint(text.length(), row);
        }
        for (char c : text.toCharArray()) {
            row.add(random.nextInt(12) == 0 ? random.nextInt(256) : c);
        }
    }

    private static void addWide(long v, int width, List<Integer> row) {
        for (int i = width - 1; i >= 0; i--) {
            row.add((int) (v >> 8 * i) & 255);
        }
    }

    private static long zigzag(long v) {
        return v >= 0 ? 2 * v : -2 * v - 1;
    }

    /** Now and then longer than it need be. */
    private void addVarint(long bits, List<Integer> row) {
        int least = random.nextInt(30) == 0 ? random.nextInt(12) : 0;
        long left = bits;
        int n = 1;
        while (left >>> 7 != 0 || n < least) {
            row.add((int) (left & 127) + 128);
            left = left >>> 7;
            n++;
        }
        row.add((int) left);
    }
}
