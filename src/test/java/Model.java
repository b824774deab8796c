import java.math.BigInteger;
import java.util.ArrayList;
import java.util.List;
import java.util.NoSuchElementException;
import java.util.TreeMap;
import java.util.regex.Matcher;
import java.util.regex.Pattern;

/**
 * The document once more, in another way than the program: lines by a pattern, bytes first as a
 * tree without a schema and only then by a struct.
 */
final class Model {
    private static final Pattern STRUCT_LINE = Pattern.compile(" *struct *");
    private static final Pattern FIELD_LINE = Pattern.compile(
            " *field +([0-9]{1,3}) +(list +)?(flag|byte|short|int|long|text|struct +([0-9]))"
                    + "( +required)? *");
    private static final List<String> TYPES =
            List.of("flag", "byte", "short", "int", "long", "text", "struct", "list");
    private static final List<Integer> PLAIN_WIRES = List.of(2, 3, 6, 8, 10, 11, 12, 15);
    private static final List<Integer> DENSE_WIRES = List.of(1, 3, 4, 5, 6, 8, 12, 9);
    private static final List<Integer> BITS = List.of(1, 8, 16, 32, 64);

    private record FieldDef(String type, boolean list, int struct, boolean required) {
        String wireType() {
            return list ? "list" : type;
        }
    }

    /** The values of a field are Longs, Strings or records. */
    private static final class Rec {
        final int struct;
        final TreeMap<Integer, List<Object>> fields = new TreeMap<>();

        Rec(int struct) {
            this.struct = struct;
        }
    }

    /** What bytes tell without a schema: content is a BigInteger, a String or a list of nodes. */
    private record Node(int id, String type, String elementType, Object content) {
    }

    private static final class Malformed extends Exception {
        private static final long serialVersionUID = 1L;
    }

    private final StringBuilder draft = new StringBuilder();
    private final List<TreeMap<Integer, FieldDef>> structs = new ArrayList<>();
    private final List<Rec> path = new ArrayList<>();
    private List<Integer> bytes = new ArrayList<>();

    boolean write(char c) {
        if (draft.length() >= 40 || c < 32 || c > 126) {
            return false;
        }
        draft.append(c);
        return true;
    }

    int line() {
        String line = takeDraft();
        if (line.isBlank()) {
            return 0;
        }
        if (STRUCT_LINE.matcher(line).matches()) {
            state(structs.size() < 5);
            structs.add(new TreeMap<>());
            path.clear();
            return 1;
        }
        Matcher m = FIELD_LINE.matcher(line);
        argument(m.matches());
        int id = Integer.parseInt(m.group(1));
        int struct = m.group(4) == null ? -1 : Integer.parseInt(m.group(4));
        argument(id >= 1 && struct < structs.size());
        argument(structs.isEmpty() || !latest().containsKey(id));
        state(!structs.isEmpty() && latest().size() < 8);
        String type = struct < 0 ? m.group(3) : "struct";
        latest().put(id, new FieldDef(type, m.group(2) != null, struct, m.group(5) != null));
        path.clear();
        return 2;
    }

    boolean begin(int struct) {
        if (struct < 0 || struct >= structs.size()) {
            return false;
        }
        path.clear();
        path.add(new Rec(struct));
        return true;
    }

    void number(int id, long v) {
        FieldDef def = def(id);
        argument(fits(def.type, BigInteger.valueOf(v)));
        put(id, def, v);
    }

    void text(int id) {
        String taken = takeDraft();
        FieldDef def = def(id);
        argument(def.type.equals("text") && taken.length() <= 6);
        put(id, def, taken);
    }

    void open(int id) {
        FieldDef def = def(id);
        argument(def.type.equals("struct") && path.size() < 4);
        Rec inner = new Rec(def.struct);
        put(id, def, inner);
        path.add(inner);
    }

    void go(int id, int k) {
        argument(def(id).type.equals("struct"));
        List<Object> held = values(id);
        element(k >= 0 && k < held.size());
        argument(path.size() < 4);
        path.add((Rec) held.get(k));
    }

    boolean back() {
        if (path.size() < 2) {
            return false;
        }
        path.remove(path.size() - 1);
        return true;
    }

    int encode(int form) {
        argument(form == 0 || form == 1);
        state(!path.isEmpty() && !lacks(path.get(0)));
        List<Integer> out = new ArrayList<>();
        putRecord(path.get(0), form, out);
        state(out.size() <= 120);
        bytes = out;
        return bytes.size();
    }

    void clear() {
        bytes = new ArrayList<>();
    }

    boolean feed(int b) {
        return bytes.size() < 120 && (b & 255) == b && bytes.add(b);
    }

    int count(int what) {
        int[] counts = {bytes.size(), structs.size(), structs.isEmpty() ? 0 : latest().size(),
            path.size()};
        return what < 0 || what >= counts.length ? -1 : counts[what];
    }

    int at(int i) {
        return i < 0 || i >= bytes.size() ? -1 : bytes.get(i);
    }

    int size(int id) {
        boolean known = !path.isEmpty() && structs.get(hand().struct).containsKey(id);
        return known ? values(id).size() : -1;
    }

    long value(int id, int k) {
        argument(!def(id).type.equals("struct"));
        List<Object> held = values(id);
        element(k >= 0 && k < held.size());
        return held.get(k) instanceof String s ? s.length() : (Long) held.get(k);
    }

    int letter(int id, int k, int i) {
        if (path.isEmpty() || k < 0 || k >= values(id).size()) {
            return -1;
        }
        boolean there = values(id).get(k) instanceof String s && i >= 0 && i < s.length();
        return there ? ((String) values(id).get(k)).charAt(i) : -1;
    }

    private String takeDraft() {
        String taken = draft.toString();
        draft.setLength(0);
        return taken;
    }

    private TreeMap<Integer, FieldDef> latest() {
        return structs.get(structs.size() - 1);
    }

    private Rec hand() {
        return path.get(path.size() - 1);
    }

    private FieldDef def(int id) {
        state(!path.isEmpty());
        FieldDef def = structs.get(hand().struct).get(id);
        element(def != null);
        return def;
    }

    private List<Object> values(int id) {
        return hand().fields.getOrDefault(id, List.of());
    }

    private void put(int id, FieldDef def, Object v) {
        argument(!def.list || values(id).size() < 5);
        List<Object> held = new ArrayList<>(def.list ? values(id) : List.of());
        held.add(v);
        hand().fields.put(id, held);
    }

    private static void state(boolean holds) {
        if (!holds) {
            throw new IllegalStateException();
        }
    }

    private static void argument(boolean holds) {
        if (!holds) {
            throw new IllegalArgumentException();
        }
    }

    private static void element(boolean holds) {
        if (!holds) {
            throw new NoSuchElementException();
        }
    }

    /** What is no number has no bits, and nothing fits it. */
    private static boolean fits(String type, BigInteger v) {
        int place = TYPES.indexOf(type);
        if (place >= BITS.size()) {
            return false;
        }
        return place == 0 ? v.signum() >= 0 && v.bitLength() <= 1
                : v.bitLength() < BITS.get(place);
    }

    private boolean lacks(Rec rec) {
        boolean lacks = structs.get(rec.struct).entrySet().stream()
                .anyMatch(e -> e.getValue().required && !rec.fields.containsKey(e.getKey()));
        return lacks || rec.fields.values().stream().flatMap(List::stream)
                .anyMatch(v -> v instanceof Rec inner && lacks(inner));
    }

    private void putRecord(Rec rec, int form, List<Integer> out) {
        int before = 0;
        for (int id : rec.fields.keySet()) {
            FieldDef def = structs.get(rec.struct).get(id);
            List<Object> held = rec.fields.get(id);
            int wire = wire(def.wireType(), form);
            boolean denseFlag = form == 1 && def.wireType().equals("flag");
            if (denseFlag && held.get(0).equals(0L)) {
                wire = 2;
            }
            if (form == 0) {
                out.add(wire);
                putWide(id, 2, out);
            } else if (id - before < 16) {
                out.add((id - before) * 16 + wire);
            } else {
                out.add(wire);
                putZigzag(id, out);
            }
            before = id;
            if (def.list) {
                int elementWire = wire(def.type, form);
                out.add(form == 0 ? elementWire : held.size() * 16 + elementWire);
                putWide(held.size(), form == 0 ? 4 : 0, out);
            }
            for (Object v : held) {
                if (!denseFlag) {
                    putValue(def.type, v, form, out);
                }
            }
        }
        out.add(0);
    }

    private static int wire(String type, int form) {
        return (form == 0 ? PLAIN_WIRES : DENSE_WIRES).get(TYPES.indexOf(type));
    }

    private void putValue(String type, Object v, int form, List<Integer> out) {
        if (v instanceof Rec inner) {
            putRecord(inner, form, out);
        } else if (v instanceof String s) {
            if (form == 0) {
                putWide(s.length(), 4, out);
            } else {
                out.add(s.length());
            }
            s.chars().forEach(out::add);
        } else if (form == 0 || type.equals("byte")) {
            putWide((Long) v, (BITS.get(TYPES.indexOf(type)) + 7) / 8, out);
        } else if (type.equals("flag")) {
            out.add(v.equals(1L) ? 1 : 2);
        } else {
            putZigzag((Long) v, out);
        }
    }

    private static void putWide(long v, int width, List<Integer> out) {
        byte[] all = java.nio.ByteBuffer.allocate(8).putLong(v).array();
        for (int i = 8 - width; i < 8; i++) {
            out.add(all[i] & 255);
        }
    }

    private static void putZigzag(long v, List<Integer> out) {
        BigInteger n = BigInteger.valueOf(v).shiftLeft(1);
        BigInteger left = v >= 0 ? n : n.negate().subtract(BigInteger.ONE);
        while (left.bitLength() > 7) {
            out.add(left.intValue() & 127 | 128);
            left = left.shiftRight(7);
        }
        out.add(left.intValue());
    }

    // ---- reading

    private int next;
    private int found;

    int decode(int struct, int form) {
        if (struct < 0 || struct >= structs.size() || form < 0 || form > 1) {
            return -1;
        }
        next = 0;
        found = 0;
        try {
            List<Node> tree = parseRecord(form, 1);
            require(next == bytes.size());
            Rec read = interpret(struct, tree);
            if (found == 0) {
                path.clear();
                path.add(read);
            }
            return found;
        } catch (Malformed e) {
            return -2;
        }
    }

    private static void require(boolean holds) throws Malformed {
        if (!holds) {
            throw new Malformed();
        }
    }

    private int take() throws Malformed {
        require(next < bytes.size());
        return bytes.get(next++);
    }

    private long takeSigned(int width) throws Malformed {
        byte[] all = new byte[width];
        for (int i = 0; i < width; i++) {
            all[i] = (byte) take();
        }
        return new BigInteger(all).longValueExact();
    }

    private long takeVarint() throws Malformed {
        BigInteger bits = BigInteger.ZERO;
        for (int i = 0; ; i++) {
            require(i < 10);
            int b = take();
            bits = bits.add(BigInteger.valueOf(b % 128).shiftLeft(7 * i));
            if (b < 128) {
                return bits.longValue();
            }
        }
    }

    private long takeZigzag() throws Malformed {
        BigInteger bits = new BigInteger(Long.toUnsignedString(takeVarint()));
        BigInteger half = bits.shiftRight(1);
        return (bits.testBit(0) ? half.negate().subtract(BigInteger.ONE) : half).longValueExact();
    }

    private String typeOf(int wire, int form) throws Malformed {
        int place = form == 0 ? PLAIN_WIRES.indexOf(wire)
                : DENSE_WIRES.indexOf(wire == 2 ? 1 : wire);
        require(place >= 0);
        return TYPES.get(place);
    }

    private List<Node> parseRecord(int form, int depth) throws Malformed {
        require(depth <= 6);
        List<Node> fields = new ArrayList<>();
        int id = 0;
        for (int head = take(); head != 0; head = take()) {
            int wire = form == 0 ? head : head % 16;
            String type = typeOf(wire, form);
            if (form == 0) {
                id = (int) takeSigned(2) & 0xFFFF;
            } else if (head >= 16) {
                id = id + head / 16;
            } else {
                long told = takeZigzag();
                require(told == (short) told);
                id = (int) told;
            }
            fields.add(type.equals("flag") && form == 1
                    ? new Node(id, type, "", BigInteger.valueOf(2 - wire))
                    : parseValue(id, type, form, depth));
        }
        return fields;
    }

    private Node parseValue(int id, String type, int form, int depth) throws Malformed {
        switch (type) {
            case "struct":
                return new Node(id, type, "", parseRecord(form, depth + 1));
            case "list":
                return parseList(id, form, depth);
            case "text":
                long length = form == 0 ? takeSigned(4) : takeVarint();
                require(length >= 0 && length <= 120);
                StringBuilder text = new StringBuilder();
                for (int i = 0; i < length; i++) {
                    text.append((char) take());
                }
                return new Node(id, type, "", text.toString());
            default:
                return new Node(id, type, "", BigInteger.valueOf(parseNumber(type, form)));
        }
    }

    private long parseNumber(String type, int form) throws Malformed {
        if (type.equals("flag")) {
            int b = take();
            require(form == 0 ? b <= 1 : b == 1 || b == 2);
            return b % 2;
        }
        if (form == 0 || type.equals("byte")) {
            return takeSigned(BITS.get(TYPES.indexOf(type)) / 8);
        }
        return takeZigzag();
    }

    private Node parseList(int id, int form, int depth) throws Malformed {
        require(depth <= 6);
        int head = take();
        String elementType = typeOf(form == 0 ? head : head % 16, form);
        long size = form == 0 ? takeSigned(4) : head / 16;
        require(size >= 0 && size <= 120);
        List<Node> elements = new ArrayList<>();
        for (int i = 0; i < size; i++) {
            int inner = elementType.equals("list") ? depth + 1 : depth;
            elements.add(parseValue(0, elementType, form, inner));
        }
        return new Node(id, "list", elementType, elements);
    }

    private Rec interpret(int struct, List<Node> fields) throws Malformed {
        Rec rec = new Rec(struct);
        for (Node node : fields) {
            FieldDef def = structs.get(struct).get(node.id);
            if (def == null || !def.wireType().equals(node.type)
                    || def.list && !def.type.equals(node.elementType)) {
                continue;
            }
            List<Object> held = new ArrayList<>();
            List<Node> elements = def.list ? nodes(node) : List.of(node);
            if (elements.size() > 5) {
                find(-3);
                elements = List.of();
            }
            for (Node element : elements) {
                held.add(interpretElement(def, element));
            }
            rec.fields.put(node.id, held);
        }
        boolean lacks = structs.get(struct).entrySet().stream()
                .anyMatch(e -> e.getValue().required && !rec.fields.containsKey(e.getKey()));
        if (lacks) {
            find(-4);
        }
        return rec;
    }

    private Object interpretElement(FieldDef def, Node element) throws Malformed {
        if (element.content instanceof BigInteger v) {
            require(fits(def.type, v));
            return v.longValueExact();
        }
        if (element.content instanceof String s) {
            if (s.length() > 6 || s.chars().anyMatch(c -> c < 32 || c > 126)) {
                find(-3);
            }
            return s;
        }
        return interpret(def.struct, nodes(element));
    }

    @SuppressWarnings("unchecked")
    private static List<Node> nodes(Node node) {
        return (List<Node>) node.content;
    }

    private void find(int outcome) {
        if (found == 0) {
            found = outcome;
        }
    }
}
