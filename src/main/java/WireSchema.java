import java.util.NoSuchElementException;

/**
 * Records by a schema that is read line by line, written to bytes and read from bytes in a plain
 * and a dense form; what a schema does not know is passed over.
 */
public final class WireSchema {
    private static final int MAX_STRUCTS = 5;
    private static final int MAX_FIELDS = 8;
    private static final int MAX_DRAFT = 40;
    private static final int MAX_WORDS = 20;
    private static final int MAX_LETTERS = 6;
    private static final int MAX_ELEMENTS = 5;
    private static final int MAX_PATH = 4;
    private static final int MAX_DEPTH = 6;
    private static final int MAX_BYTES = 120;
    private static final int MAX_VARINT = 10;
    private static final int MAX_STEP = 15;

    private static final int ID_DIGITS = 3;
    private static final int STRUCT_DIGITS = 1;

    private static final int NO_LINE = 0;
    private static final int STRUCT_LINE = 1;
    private static final int FIELD_LINE = 2;

    private static final int NO_SUCH = -1;
    private static final int READ = 0;
    private static final int MALFORMED = -2;
    private static final int TOO_GREAT = -3;
    private static final int LACKS = -4;

    private static final Kind[] KINDS = Kind.values();

    private final Draft draft;
    private final Struct[] structs;
    private int structCount;
    /** The root, and behind it each record down to the one at hand. */
    private final WireRecord[] path;
    private int pathLength;
    private final ByteRow bytes;
    /** Has room for one byte more than is allowed, so that it shows when there would be too many. */
    private final ByteRow scratch;
    private final Form[] forms;

    public WireSchema() {
        draft = new Draft();
        structs = new Struct[MAX_STRUCTS];
        structCount = 0;
        path = new WireRecord[MAX_PATH];
        pathLength = 0;
        bytes = new ByteRow(MAX_BYTES);
        scratch = new ByteRow(MAX_BYTES + 1);
        forms = new Form[] {new PlainForm(), new DenseForm()};
    }

    public boolean write(char c) {
        return draft.append(c);
    }

    public int line() throws IllegalArgumentException, IllegalStateException {
        draft.markWords();
        draft.takeLength();
        if (draft.words == 0) {
            return NO_LINE;
        }
        if (draft.words == 1 && draft.isWord(0, Kind.STRUCT.word)) {
            addStruct();
            return STRUCT_LINE;
        }
        Field field = fieldOfLine();
        if (field == null) {
            throw new IllegalArgumentException();
        }
        addField(field);
        return FIELD_LINE;
    }

    public boolean begin(int struct) {
        Struct chosen = structOf(struct);
        if (chosen == null) {
            return false;
        }
        becomeRoot(new WireRecord(chosen));
        return true;
    }

    public void number(int id, long v)
            throws IllegalStateException, NoSuchElementException, IllegalArgumentException {
        WireRecord record = recordAtHand();
        Field field = record.fieldOf(id);
        if (!field.kind.holds(v) || record.isFull(field)) {
            throw new IllegalArgumentException();
        }
        record.slotToFill(field).addNumber(v);
    }

    public void text(int id)
            throws IllegalStateException, NoSuchElementException, IllegalArgumentException {
        int length = draft.takeLength();
        WireRecord record = recordAtHand();
        Field field = record.fieldOf(id);
        if (field.kind != Kind.TEXT || length > MAX_LETTERS || record.isFull(field)) {
            throw new IllegalArgumentException();
        }
        record.slotToFill(field).addText(draft.codes, 0, length);
    }

    public void open(int id)
            throws IllegalStateException, NoSuchElementException, IllegalArgumentException {
        WireRecord record = recordAtHand();
        Field field = record.fieldOf(id);
        Struct struct = field.struct;
        if (struct == null || record.isFull(field) || pathLength == MAX_PATH) {
            throw new IllegalArgumentException();
        }
        WireRecord inner = new WireRecord(struct);
        record.slotToFill(field).addRecord(inner);
        stepInto(inner);
    }

    public void go(int id, int k)
            throws IllegalStateException, NoSuchElementException, IllegalArgumentException {
        WireRecord record = recordAtHand();
        Field field = record.fieldOf(id);
        if (field.kind != Kind.STRUCT) {
            throw new IllegalArgumentException();
        }
        Slot slot = record.slotOf(id);
        WireRecord inner = slot != null && slot.has(k) ? slot.records[k] : null;
        if (inner == null) {
            throw new NoSuchElementException();
        }
        if (pathLength == MAX_PATH) {
            throw new IllegalArgumentException();
        }
        stepInto(inner);
    }

    public boolean back() {
        if (pathLength < 2) {
            return false;
        }
        pathLength--;
        return true;
    }

    public int encode(int form) throws IllegalStateException, IllegalArgumentException {
        Form chosen = formOf(form);
        if (chosen == null) {
            throw new IllegalArgumentException();
        }
        WireRecord root = pathLength == 0 ? null : path[0];
        if (root == null || root.lacksAnywhere(1)) {
            throw new IllegalStateException();
        }
        scratch.drop();
        root.putInto(scratch, chosen, 1);
        if (scratch.count > MAX_BYTES) {
            throw new IllegalStateException();
        }
        bytes.copyFrom(scratch);
        return bytes.count;
    }

    public void clear() {
        bytes.drop();
    }

    public boolean feed(int b) {
        return b >= 0 && b <= 255 && bytes.put(b);
    }

    public int decode(int struct, int form) {
        Struct chosen = structOf(struct);
        Form chosenForm = formOf(form);
        if (chosen == null || chosenForm == null) {
            return NO_SUCH;
        }
        Reader reader = new Reader(bytes, chosenForm);
        WireRecord record = reader.readRecord(chosen, 1);
        int outcome = reader.outcome();
        if (outcome == READ) {
            becomeRoot(record);
        }
        return outcome;
    }

    public int count(int what) {
        switch (what) {
            case 0:
                return bytes.count;
            case 1:
                return structCount;
            case 2:
                Struct latest = latestStruct();
                return latest == null ? 0 : latest.fieldCount;
            case 3:
                return pathLength;
            default:
                return NO_SUCH;
        }
    }

    public int at(int i) {
        return i >= 0 && i < bytes.count ? bytes.cells[i] : NO_SUCH;
    }

    public int size(int id) {
        WireRecord record = atHand();
        if (record == null || record.struct.find(id) == null) {
            return NO_SUCH;
        }
        Slot slot = record.slotOf(id);
        return slot == null ? 0 : slot.count;
    }

    public long value(int id, int k)
            throws IllegalStateException, NoSuchElementException, IllegalArgumentException {
        WireRecord record = recordAtHand();
        Field field = record.fieldOf(id);
        if (field.kind == Kind.STRUCT) {
            throw new IllegalArgumentException();
        }
        Slot slot = record.slotOf(id);
        if (slot == null || !slot.has(k)) {
            throw new NoSuchElementException();
        }
        return slot.numbers[k];
    }

    public int letter(int id, int k, int i) {
        WireRecord record = atHand();
        Slot slot = record == null ? null : record.slotOf(id);
        return slot == null ? NO_SUCH : slot.letterOf(k, i);
    }

    private void addStruct() {
        if (structCount == MAX_STRUCTS) {
            throw new IllegalStateException();
        }
        structs[structCount] = new Struct();
        structCount++;
        dropRoot();
    }

    private void addField(Field field) {
        Struct latest = latestStruct();
        if (latest == null || latest.fieldCount == MAX_FIELDS) {
            throw new IllegalStateException();
        }
        latest.insert(field);
        dropRoot();
    }

    /** The field that the words of the draft tell, or null when they are no line. */
    private Field fieldOfLine() {
        int id = draft.numberOf(1, ID_DIGITS);
        if (!draft.isWord(0, "field") || id < 1 || isTaken(id)) {
            return null;
        }
        boolean isList = draft.isWord(2, Kind.LIST.word);
        int next = isList ? 3 : 2;
        Kind kind = kindOfWord(next);
        if (kind == null || kind == Kind.LIST) {
            return null;
        }
        next++;
        Struct struct = null;
        if (kind == Kind.STRUCT) {
            struct = structOf(draft.numberOf(next, STRUCT_DIGITS));
            if (struct == null) {
                return null;
            }
            next++;
        }
        boolean isRequired = draft.isWord(next, "required");
        if (draft.words != (isRequired ? next + 1 : next)) {
            return null;
        }
        return new Field(id, kind, isList, struct, isRequired);
    }

    private boolean isTaken(int id) {
        Struct latest = latestStruct();
        return latest != null && latest.find(id) != null;
    }

    private Kind kindOfWord(int word) {
        for (int i = 0; i < KINDS.length; i++) {
            if (draft.isWord(word, KINDS[i].word)) {
                return KINDS[i];
            }
        }
        return null;
    }

    private Struct structOf(int number) {
        return number >= 0 && number < structCount ? structs[number] : null;
    }

    private Struct latestStruct() {
        return structOf(structCount - 1);
    }

    private Form formOf(int form) {
        return form >= 0 && form < forms.length ? forms[form] : null;
    }

    private void dropRoot() {
        pathLength = 0;
    }

    private void becomeRoot(WireRecord record) {
        path[0] = record;
        pathLength = 1;
    }

    private void stepInto(WireRecord inner) {
        if (pathLength < MAX_PATH) {
            path[pathLength] = inner;
            pathLength++;
        }
    }

    private WireRecord atHand() {
        return pathLength == 0 ? null : path[pathLength - 1];
    }

    private WireRecord recordAtHand() {
        WireRecord record = atHand();
        if (record == null) {
            throw new IllegalStateException();
        }
        return record;
    }

    /** What a value can be, with its wire types; what is no number has no width and holds none. */
    private enum Kind {
        FLAG("flag", 2, 1, 1, 0, 1),
        BYTE("byte", 3, 3, 1, -128, 127),
        SHORT("short", 6, 4, 2, -32768, 32767),
        INT("int", 8, 5, 4, -2147483648L, 2147483647L),
        LONG("long", 10, 6, 8, -9223372036854775808L, 9223372036854775807L),
        TEXT("text", 11, 8, 0, 0, -1),
        STRUCT("struct", 12, 12, 0, 0, -1),
        LIST("list", 15, 9, 0, 0, -1);

        final String word;
        final int plainWire;
        final int denseWire;
        final int width;
        final long least;
        final long most;

        Kind(String word, int plainWire, int denseWire, int width, long least, long most) {
            this.word = word;
            this.plainWire = plainWire;
            this.denseWire = denseWire;
            this.width = width;
            this.least = least;
            this.most = most;
        }

        boolean holds(long v) {
            return v >= least && v <= most;
        }
    }

    /** The characters that were written, and where the words among them lie. */
    private static final class Draft {
        final int[] codes = new int[MAX_DRAFT];
        private int length = 0;
        private final int[] starts = new int[MAX_WORDS];
        private final int[] ends = new int[MAX_WORDS];
        int words = 0;

        boolean append(char c) {
            if (length == MAX_DRAFT || !isLetter(c)) {
                return false;
            }
            codes[length] = c;
            length++;
            return true;
        }

        static boolean isLetter(int code) {
            return code >= 32 && code <= 126;
        }

        /** Empties the draft; its codes and marked words can be read until the next append. */
        int takeLength() {
            int taken = length;
            length = 0;
            return taken;
        }

        void markWords() {
            words = 0;
            boolean inWord = false;
            for (int i = 0; i < length; i++) {
                boolean isBlank = codes[i] == ' ';
                if (!isBlank && !inWord && words < MAX_WORDS) {
                    starts[words] = i;
                    words++;
                }
                if (!isBlank && words > 0) {
                    ends[words - 1] = i + 1;
                }
                inWord = !isBlank;
            }
        }

        boolean isWord(int word, String expected) {
            if (word >= words || ends[word] - starts[word] != expected.length()) {
                return false;
            }
            for (int i = 0; i < expected.length(); i++) {
                if (codes[starts[word] + i] != expected.charAt(i)) {
                    return false;
                }
            }
            return true;
        }

        /** The number that a word of digits tells, or -1 when it is none or has too many. */
        int numberOf(int word, int mostDigits) {
            if (word >= words || ends[word] - starts[word] > mostDigits) {
                return -1;
            }
            int told = 0;
            for (int i = starts[word]; i < ends[word]; i++) {
                if (codes[i] < '0' || codes[i] > '9') {
                    return -1;
                }
                told = 10 * told + codes[i] - '0';
            }
            return told;
        }
    }

    /** A field of a struct; of a list, kind and struct are those of its elements. */
    private static final class Field {
        final int id;
        final Kind kind;
        final boolean isList;
        /** Null when the kind is not STRUCT. */
        final Struct struct;
        final boolean isRequired;

        Field(int id, Kind kind, boolean isList, Struct struct, boolean isRequired) {
            this.id = id;
            this.kind = kind;
            this.isList = isList;
            this.struct = struct;
            this.isRequired = isRequired;
        }

        boolean isWrittenAs(Kind wireKind) {
            return wireKind == (isList ? Kind.LIST : kind);
        }
    }

    /** Fields in the order of their ids, which is the order in which they are written. */
    private static final class Struct {
        final Field[] fields = new Field[MAX_FIELDS];
        int fieldCount = 0;

        void insert(Field field) {
            if (fieldCount == MAX_FIELDS) {
                return;
            }
            int place = fieldCount;
            while (place > 0 && fields[place - 1].id > field.id) {
                fields[place] = fields[place - 1];
                place--;
            }
            fields[place] = field;
            fieldCount++;
        }

        /** Where the field of an id stands, or -1. */
        int placeOf(int id) {
            for (int i = 0; i < fieldCount; i++) {
                if (fields[i].id == id) {
                    return i;
                }
            }
            return -1;
        }

        Field find(int id) {
            int place = placeOf(id);
            return place < 0 ? null : fields[place];
        }
    }

    /** For each field of its struct, in the same order, a slot with its value, or null. */
    private static final class WireRecord {
        final Struct struct;
        private final Slot[] slots;

        WireRecord(Struct struct) {
            this.struct = struct;
            slots = new Slot[struct.fieldCount];
        }

        Field fieldOf(int id) {
            Field field = struct.find(id);
            if (field == null) {
                throw new NoSuchElementException();
            }
            return field;
        }

        Slot slotOf(int id) {
            int place = struct.placeOf(id);
            return place >= 0 && place < slots.length ? slots[place] : null;
        }

        void keep(Slot slot) {
            int place = struct.placeOf(slot.field.id);
            if (place >= 0 && place < slots.length) {
                slots[place] = slot;
            }
        }

        Slot slotToFill(Field field) {
            Slot slot = slotOf(field.id);
            if (slot == null) {
                slot = new Slot(field);
                keep(slot);
            }
            return slot;
        }

        boolean isFull(Field field) {
            Slot slot = slotOf(field.id);
            return field.isList && slot != null && slot.count == MAX_ELEMENTS;
        }

        boolean lacksField() {
            for (int i = 0; i < slots.length; i++) {
                if (slots[i] == null && struct.fields[i].isRequired) {
                    return true;
                }
            }
            return false;
        }

        boolean lacksAnywhere(int depth) {
            if (depth > MAX_DEPTH || lacksField()) {
                return true;
            }
            for (int i = 0; i < slots.length; i++) {
                if (slots[i] != null && slots[i].lacksInside(depth)) {
                    return true;
                }
            }
            return false;
        }

        void putInto(ByteRow out, Form form, int depth) {
            if (depth > MAX_DEPTH) {
                return;
            }
            int before = 0;
            for (int i = 0; i < slots.length; i++) {
                if (slots[i] != null) {
                    slots[i].putField(out, form, before, depth);
                    before = struct.fields[i].id;
                }
            }
            out.put(0);
        }
    }

    /** The value of a field: one element, or those of a list, which may be none. */
    private static final class Slot {
        final Field field;
        int count = 0;
        /** Of a text: its length. */
        final long[] numbers;
        private final int[] letters;
        final WireRecord[] records;

        Slot(Field field) {
            this.field = field;
            int room = field.isList ? MAX_ELEMENTS : 1;
            numbers = new long[room];
            letters = new int[field.kind == Kind.TEXT ? room * MAX_LETTERS : 0];
            records = new WireRecord[field.kind == Kind.STRUCT ? room : 0];
        }

        boolean has(int k) {
            return k >= 0 && k < count;
        }

        /** Behind the others in a list, otherwise in the stead of the old value. */
        private int nextPlace() {
            if (count < numbers.length) {
                count++;
            }
            return count - 1;
        }

        void addNumber(long v) {
            numbers[nextPlace()] = v;
        }

        void addText(int[] codes, int start, int length) {
            int place = nextPlace();
            numbers[place] = length;
            System.arraycopy(codes, start, letters, place * MAX_LETTERS, length);
        }

        void addRecord(WireRecord record) {
            records[nextPlace()] = record;
        }

        int letterOf(int k, int i) {
            if (field.kind != Kind.TEXT || !has(k) || i < 0 || i >= numbers[k]) {
                return NO_SUCH;
            }
            return letters[k * MAX_LETTERS + i];
        }

        boolean lacksInside(int depth) {
            for (int k = 0; k < count && k < records.length; k++) {
                if (records[k] != null && records[k].lacksAnywhere(depth + 1)) {
                    return true;
                }
            }
            return false;
        }

        void putField(ByteRow out, Form form, int before, int depth) {
            if (field.isList) {
                form.putHead(Kind.LIST, field.id, before, out);
                form.putListHead(field.kind, count, out);
            } else if (field.kind == Kind.FLAG) {
                form.putFlagField(numbers[0], field.id, before, out);
                return;
            } else {
                form.putHead(field.kind, field.id, before, out);
            }
            for (int k = 0; k < count; k++) {
                putElement(k, out, form, depth);
            }
        }

        private void putElement(int k, ByteRow out, Form form, int depth) {
            if (field.kind == Kind.TEXT) {
                form.putLength((int) numbers[k], out);
                for (int i = 0; i < numbers[k]; i++) {
                    out.put(letters[k * MAX_LETTERS + i]);
                }
            } else if (field.kind == Kind.STRUCT) {
                if (records[k] != null) {
                    records[k].putInto(out, form, depth + 1);
                }
            } else {
                form.putNumber(field.kind, numbers[k], out);
            }
        }
    }

    /** A row of bytes 0 .. 255 with a limit. */
    private static final class ByteRow {
        final int[] cells;
        int count = 0;

        ByteRow(int room) {
            cells = new int[room];
        }

        boolean put(int b) {
            if (count == cells.length) {
                return false;
            }
            cells[count] = b & 255;
            count++;
            return true;
        }

        void drop() {
            count = 0;
        }

        void copyFrom(ByteRow other) {
            count = Math.min(other.count, cells.length);
            System.arraycopy(other.cells, 0, cells, 0, count);
        }
    }

    /** How the parts of a record look in bytes. A head is the first byte of a field or of a list. */
    private abstract static class Form {
        abstract void putHead(Kind kind, int id, int before, ByteRow out);

        /** A flag's field whole, as the dense form has the flag in the head. */
        abstract void putFlagField(long flag, int id, int before, ByteRow out);

        abstract void putListHead(Kind kind, int count, ByteRow out);

        abstract void putLength(int length, ByteRow out);

        abstract void putNumber(Kind kind, long v, ByteRow out);

        /** Null when the head's wire type is none. */
        abstract Kind kindIn(int head);

        abstract int takeId(int head, int before, Reader in);

        abstract long takeFieldFlag(int head, Reader in);

        abstract long takeListCount(int head, Reader in);

        abstract long takeLength(Reader in);

        abstract long takeNumber(Kind kind, Reader in);
    }

    /** Fixed widths, highest byte first. */
    private static final class PlainForm extends Form {
        private static final int ID_WIDTH = 2;
        private static final int COUNT_WIDTH = 4;

        void putHead(Kind kind, int id, int before, ByteRow out) {
            out.put(kind.plainWire);
            putWide(id, ID_WIDTH, out);
        }

        void putFlagField(long flag, int id, int before, ByteRow out) {
            putHead(Kind.FLAG, id, before, out);
            putNumber(Kind.FLAG, flag, out);
        }

        void putListHead(Kind kind, int count, ByteRow out) {
            out.put(kind.plainWire);
            putWide(count, COUNT_WIDTH, out);
        }

        void putLength(int length, ByteRow out) {
            putWide(length, COUNT_WIDTH, out);
        }

        void putNumber(Kind kind, long v, ByteRow out) {
            putWide(v, kind.width, out);
        }

        private static void putWide(long v, int width, ByteRow out) {
            for (int i = width - 1; i >= 0; i--) {
                out.put((int) (v >> (8 * i)));
            }
        }

        Kind kindIn(int head) {
            for (int i = 0; i < KINDS.length; i++) {
                if (KINDS[i].plainWire == head) {
                    return KINDS[i];
                }
            }
            return null;
        }

        int takeId(int head, int before, Reader in) {
            return (int) takeWide(ID_WIDTH, in) & 65535;
        }

        long takeFieldFlag(int head, Reader in) {
            return takeNumber(Kind.FLAG, in);
        }

        long takeListCount(int head, Reader in) {
            return takeWide(COUNT_WIDTH, in);
        }

        long takeLength(Reader in) {
            return takeWide(COUNT_WIDTH, in);
        }

        long takeNumber(Kind kind, Reader in) {
            long v = takeWide(kind.width, in);
            if (kind == Kind.FLAG && !kind.holds(v)) {
                in.fail();
            }
            return v;
        }

        /** The highest byte's sign is the number's. */
        private static long takeWide(int width, Reader in) {
            long v = (byte) in.take();
            for (int i = 1; i < width; i++) {
                v = v << 8 | in.take();
            }
            return v;
        }
    }

    /** Small numbers in few bytes. */
    private static final class DenseForm extends Form {
        private static final int SET_FLAG = 1;
        private static final int UNSET_FLAG = 2;

        void putHead(Kind kind, int id, int before, ByteRow out) {
            putWire(kind.denseWire, id, before, out);
        }

        void putFlagField(long flag, int id, int before, ByteRow out) {
            putWire(wireOfFlag(flag), id, before, out);
        }

        void putListHead(Kind kind, int count, ByteRow out) {
            out.put(16 * count + kind.denseWire);
        }

        void putLength(int length, ByteRow out) {
            putVarint(length, out);
        }

        void putNumber(Kind kind, long v, ByteRow out) {
            if (kind == Kind.FLAG) {
                out.put(wireOfFlag(v));
            } else if (kind == Kind.BYTE) {
                out.put((int) v);
            } else {
                putZigzag(v, out);
            }
        }

        private static int wireOfFlag(long flag) {
            return flag == 1 ? SET_FLAG : UNSET_FLAG;
        }

        private static void putWire(int wire, int id, int before, ByteRow out) {
            int step = id - before;
            if (step >= 1 && step <= MAX_STEP) {
                out.put(16 * step + wire);
            } else {
                out.put(wire);
                putZigzag(id, out);
            }
        }

        private static void putZigzag(long v, ByteRow out) {
            putVarint(v << 1 ^ v >> 63, out);
        }

        private static void putVarint(long bits, ByteRow out) {
            long left = bits;
            for (int i = 1; i < MAX_VARINT && left >>> 7 != 0; i++) {
                out.put((int) (left & 127) + 128);
                left = left >>> 7;
            }
            out.put((int) left);
        }

        Kind kindIn(int head) {
            int wire = head & 15;
            if (wire == UNSET_FLAG) {
                return Kind.FLAG;
            }
            for (int i = 0; i < KINDS.length; i++) {
                if (KINDS[i].denseWire == wire) {
                    return KINDS[i];
                }
            }
            return null;
        }

        int takeId(int head, int before, Reader in) {
            int step = head >> 4;
            if (step > 0) {
                return before + step;
            }
            long id = takeZigzag(in);
            if (!Kind.SHORT.holds(id)) {
                in.fail();
                return 0;
            }
            return (int) id;
        }

        long takeFieldFlag(int head, Reader in) {
            return flagOf(head & 15, in);
        }

        long takeListCount(int head, Reader in) {
            return head >> 4;
        }

        long takeLength(Reader in) {
            return in.takeVarint();
        }

        long takeNumber(Kind kind, Reader in) {
            if (kind == Kind.FLAG) {
                return flagOf(in.take(), in);
            }
            if (kind == Kind.BYTE) {
                return (byte) in.take();
            }
            return takeZigzag(in);
        }

        private static long flagOf(int wire, Reader in) {
            if (wire != SET_FLAG && wire != UNSET_FLAG) {
                in.fail();
            }
            return wire == SET_FLAG ? 1 : 0;
        }

        private static long takeZigzag(Reader in) {
            long bits = in.takeVarint();
            return bits >>> 1 ^ -(bits & 1);
        }
    }

    /**
     * Reads bytes from the first on. It goes on behind what is too great or lacking, because what
     * is malformed further on counts before these. Where a slot, field or struct is null, what is
     * read is passed over.
     */
    private static final class Reader {
        private final ByteRow source;
        private final Form form;
        private int position = 0;
        private boolean isMalformed = false;
        private int firstFound = READ;

        Reader(ByteRow source, Form form) {
            this.source = source;
            this.form = form;
        }

        int outcome() {
            return isMalformed || position < source.count ? MALFORMED : firstFound;
        }

        void fail() {
            isMalformed = true;
        }

        private void noteFirst(int outcome) {
            if (firstFound == READ) {
                firstFound = outcome;
            }
        }

        int take() {
            if (position >= source.count) {
                isMalformed = true;
                return 0;
            }
            position++;
            return source.cells[position - 1];
        }

        /** Bits beyond 64 fall off the tenth byte by the shift. */
        long takeVarint() {
            long bits = 0;
            for (int i = 0; i < MAX_VARINT && position < source.count; i++) {
                int b = source.cells[position];
                position++;
                bits = bits | (long) (b & 127) << (7 * i);
                if (b < 128) {
                    return bits;
                }
            }
            isMalformed = true;
            return 0;
        }

        WireRecord readRecord(Struct struct, int depth) {
            if (depth > MAX_DEPTH) {
                fail();
                return null;
            }
            WireRecord record = struct == null ? null : new WireRecord(struct);
            int id = 0;
            // One round more than there can be fields, so that a missing end is run into.
            for (int round = 0; round <= MAX_BYTES && !isMalformed; round++) {
                int head = take();
                if (head == 0) {
                    break;
                }
                id = form.takeId(head, id, this);
                readField(head, id, record, depth);
            }
            if (record != null && record.lacksField()) {
                noteFirst(LACKS);
            }
            return record;
        }

        private void readField(int head, int id, WireRecord record, int depth) {
            Kind kind = form.kindIn(head);
            if (kind == null) {
                fail();
                return;
            }
            Field field = record == null ? null : record.struct.find(id);
            if (field != null && !field.isWrittenAs(kind)) {
                field = null;
            }
            Slot slot = kind == Kind.LIST
                    ? readList(field, depth)
                    : readSingle(kind, field, head, depth);
            if (record != null && slot != null) {
                record.keep(slot);
            }
        }

        private Slot readSingle(Kind kind, Field field, int head, int depth) {
            Slot slot = field == null ? null : new Slot(field);
            if (kind == Kind.FLAG) {
                keepNumber(kind, form.takeFieldFlag(head, this), slot);
            } else {
                readElement(kind, slot, depth);
            }
            return slot;
        }

        /** Null when the list is passed over or too great. */
        private Slot readList(Field field, int depth) {
            int head = take();
            Kind kind = form.kindIn(head);
            long size = form.takeListCount(head, this);
            if (depth > MAX_DEPTH || kind == null || size < 0 || size > MAX_BYTES) {
                fail();
                return null;
            }
            Slot slot = null;
            if (field != null && field.kind == kind) {
                if (size > MAX_ELEMENTS) {
                    noteFirst(TOO_GREAT);
                } else {
                    slot = new Slot(field);
                }
            }
            for (int i = 0; i < size && !isMalformed; i++) {
                readElement(kind, slot, depth);
            }
            return slot;
        }

        private void readElement(Kind kind, Slot slot, int depth) {
            if (kind == Kind.TEXT) {
                readText(form.takeLength(this), slot);
            } else if (kind == Kind.LIST) {
                // No schema has a list of lists.
                readList(null, depth + 1);
            } else if (kind == Kind.STRUCT) {
                WireRecord inner = readRecord(slot == null ? null : slot.field.struct, depth + 1);
                if (slot != null && inner != null) {
                    slot.addRecord(inner);
                }
            } else {
                keepNumber(kind, form.takeNumber(kind, this), slot);
            }
        }

        private void keepNumber(Kind kind, long v, Slot slot) {
            if (slot == null) {
                return;
            }
            if (kind.holds(v)) {
                slot.addNumber(v);
            } else {
                fail();
            }
        }

        private void readText(long length, Slot slot) {
            // A length above 120 is always above what is left, too.
            if (length < 0 || length > source.count - position) {
                fail();
                return;
            }
            int start = position;
            position = position + (int) length;
            if (slot == null) {
                return;
            }
            if (length > MAX_LETTERS || !areLetters(start, position)) {
                noteFirst(TOO_GREAT);
            } else {
                slot.addText(source.cells, start, (int) length);
            }
        }

        private boolean areLetters(int start, int end) {
            for (int i = start; i < end; i++) {
                if (!Draft.isLetter(source.cells[i])) {
                    return false;
                }
            }
            return true;
        }
    }
}
