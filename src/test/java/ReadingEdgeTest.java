/** The edges of READING: what is read, passed over, MALFORMED, TOO GREAT or LACKING. */
final class ReadingEdgeTest {
    private static final Check CHECK = new Check("ReadingEdgeTest");
    private static final int PLAIN = 0;
    private static final int DENSE = 1;
    private static final int MALFORMED = -2;
    private static final int TOO_GREAT = -3;
    private static final int LACKS = -4;

    private static final int FLAG = 0;
    private static final int TEXT = 5;
    private static final int STRUCT = 6;
    private static final int LIST = 7;
    /** Each wire type as a field of a schema can have it; the struct is that before the latest. */
    private static final String[] TYPES = {"flag", "byte", "short", "int", "long", "text",
        "struct 0", "list byte"};
    private static final int[][] WIRES = {{2, 3, 6, 8, 10, 11, 12, 15}, {1, 3, 4, 5, 6, 8, 12, 9}};
    /** A value of each, that is 1, 7, "a", a record without values, or a list of one byte 9. */
    private static final int[][][] VALUES = {
        {{1}, {7}, {0, 7}, {0, 0, 0, 7}, {0, 0, 0, 0, 0, 0, 0, 7}, {0, 0, 0, 1, 97}, {0},
            {3, 0, 0, 0, 1, 9}},
        {{1}, {7}, {14}, {14}, {14}, {1, 97}, {0}, {0x13, 9}}
    };

    public static void main(String[] args) {
        untilAnEnd();
        sameWireType();
        bothWireTypesOfTheFlag();
        sameWireTypeOfElements();
        givesWay();
        passedOver();
        idsOfThePlainForm();
        idsOfTheDenseForm();
        endsTooEarly();
        all120EndTooEarly();
        someLeft();
        wireTypesThatAreNone();
        plainFlags();
        denseFlagsInLists();
        lengths();
        lengthsThatWrap();
        sizes();
        varintsOfMoreThanTen();
        varintsLongerThanNeeded();
        bitsBeyond64();
        zigzagsThatFit();
        zigzagsThatDoNotFit();
        zigzagsPassedOver();
        idsThatDoNotFit();
        recordsSixDeep();
        recordsInListsSixDeep();
        listsInListsSixDeep();
        listsAsDeepAsTheirRecord();
        textsTooLong();
        textsOfOtherCharacters();
        listsTooLong();
        whatIsInATooLongList();
        lacksARequiredField();
        lacksInARecord();
        CHECK.end();
    }

    /** A new object whose latest struct, number 1, has these fields; struct 0 has none. */
    private static Run latest(String... fields) {
        Run x = Use.schema("struct", "struct");
        for (String field : fields) {
            Use.line(x, "field " + field);
        }
        return x;
    }

    /** A struct whose fields 1 and 2 are a record of its own and a list of such. */
    private static Run tree(String... fields) {
        Run x = Use.schema("struct", "struct", "field 1 struct 1", "field 2 list struct 1");
        for (String field : fields) {
            Use.line(x, "field " + field);
        }
        return x;
    }

    /** Bytes that can be read, by the latest struct, on another object behind the same calls. */
    private static Run reads(String what, Run schema, int form, int... bytes) {
        Run x = schema.again();
        Use.feed(x, bytes);
        CHECK.same("form " + form + ", " + what, x.decode(1, form), 0);
        CHECK.same("the path of " + what, x.count(3), 1);
        return x;
    }

    /** Bytes that can't be read leave everything as it was. */
    private static void refuses(String what, int due, Run schema, int form, int... bytes) {
        Run x = schema.again();
        x.begin(0);
        Use.feed(x, bytes);
        String call = "form " + form + ", " + what;
        CHECK.keeps(what, x, () -> CHECK.same(call, x.decode(1, form), due));
    }

    private static void malformed(String what, Run schema, int form, int... bytes) {
        refuses(what, MALFORMED, schema, form, bytes);
    }

    /** A field's wire type and id; in the dense form, the id is told whole. */
    private static int[] head(int form, int type, int id) {
        int wire = WIRES[form][type];
        return form == PLAIN ? Row.of(wire, 0, id) : Row.of(wire, 2 * id);
    }

    private static int[] field(int form, int type, int id) {
        boolean isInHead = form == DENSE && type == FLAG;
        return Row.join(head(form, type, id), isInHead ? Row.of() : VALUES[form][type]);
    }

    private static int[] listHead(int form, int type, int size) {
        int wire = WIRES[form][type];
        return form == PLAIN ? Row.join(Row.of(wire), Row.wide(size)) : Row.of(16 * size + wire);
    }

    private static int[] listField(int form, int type, int id, int size) {
        return Row.join(head(form, LIST, id), listHead(form, type, size),
                Row.times(size, VALUES[form][type]));
    }

    private static int[] ended(int[]... fields) {
        return Row.join(Row.join(fields), Row.of(0));
    }

    private static int[] textField(int form, int id, int... characters) {
        return Row.join(head(form, TEXT, id), text(form, characters));
    }

    private static int[] text(int form, int... characters) {
        int[] length = form == PLAIN ? Row.wide(characters.length) : Row.of(characters.length);
        return Row.join(length, characters);
    }

    // ---- what is read

    private static void untilAnEnd() {
        CHECK.of("fields one behind the other until a byte 0");
        Run x = latest("1 int", "2 list short", "3 byte");
        for (int form = 0; form <= 1; form++) {
            Run read = reads("no field", x, form, 0);
            for (int id = 1; id <= 3; id++) {
                CHECK.same("size(" + id + ")", read.size(id), 0);
            }
        }
        Run plain = reads("zeros that are no end", x, PLAIN,
                8, 0, 1, 0, 0, 0, 0, 15, 0, 2, 6, 0, 0, 0, 1, 0, 0, 3, 0, 3, 0, 0);
        Run dense = reads("zeros that are no end", x, DENSE, 21, 0, 25, 0x14, 0, 19, 0, 0);
        for (Run read : new Run[] {plain, dense}) {
            for (int id = 1; id <= 3; id++) {
                CHECK.same("field " + id, Use.values(read, id), "0");
            }
        }
        malformed("no end", x, PLAIN, 8, 0, 1, 0, 0, 0, 0);
        malformed("no end", x, DENSE, 21, 0);
    }

    private static void isSample(String what, Run x, int type) {
        CHECK.same(what + ", size", x.size(1), 1);
        if (type == TEXT) {
            CHECK.same(what, Use.texts(x, 1), "/a");
        } else if (type != STRUCT) {
            CHECK.same(what, x.value(1, 0), type == FLAG ? 1 : type == LIST ? 9 : 7);
        }
    }

    private static void sameWireType() {
        CHECK.of("A field whose id the struct has, with the same wire type");
        for (int own = 0; own < TYPES.length; own++) {
            Run x = latest("1 " + TYPES[own]);
            Run required = latest("1 " + TYPES[own] + " required");
            for (int form = 0; form <= 1; form++) {
                for (int type = 0; type < TYPES.length; type++) {
                    String what = TYPES[type] + " for " + TYPES[own];
                    Run read = reads(what, x, form, ended(field(form, type, 1)));
                    if (type == own) {
                        isSample(what, read, type);
                        reads(what, required, form, ended(field(form, type, 1)));
                    } else {
                        CHECK.same(what, read.size(1), 0);
                        refuses(what, LACKS, required, form, ended(field(form, type, 1)));
                    }
                    Run other = reads("id 2", x, form, ended(field(form, type, 2)));
                    CHECK.same("field 1 of a field 2", other.size(1), 0);
                }
            }
        }
    }

    private static void bothWireTypesOfTheFlag() {
        CHECK.of("(both of the flag's in the dense form)");
        Run x = latest("1 flag required");
        CHECK.same("1", reads("1", x, DENSE, 17, 0).value(1, 0), 1);
        CHECK.same("2", reads("2", x, DENSE, 18, 0).value(1, 0), 0);
        CHECK.same("1 with an id", reads("1", x, DENSE, 1, 2, 0).value(1, 0), 1);
        CHECK.same("2 with an id", reads("2", x, DENSE, 2, 2, 0).value(1, 0), 0);
        refuses("3", LACKS, x, DENSE, 19, 1, 0);
        malformed("0", x, DENSE, 16, 0);
    }

    private static void sameWireTypeOfElements() {
        CHECK.of("for a list with the same wire type of elements (either of 1 and 2 for flags)");
        for (int own = FLAG; own <= STRUCT; own++) {
            Run x = latest("1 list " + TYPES[own] + " required");
            for (int form = 0; form <= 1; form++) {
                for (int type = FLAG; type <= LIST; type++) {
                    for (int size : new int[] {0, 1, 5}) {
                        String what = size + " of " + TYPES[type] + " for " + TYPES[own];
                        int[] bytes = ended(listField(form, type, 1, size));
                        if (type == own) {
                            CHECK.same(what, reads(what, x, form, bytes).size(1), size);
                        } else {
                            refuses(what, LACKS, x, form, bytes);
                        }
                    }
                }
            }
        }
        Run flags = latest("1 list flag required");
        for (int wire = 1; wire <= 2; wire++) {
            CHECK.same("none", reads("none", flags, DENSE, 25, wire, 0).size(1), 0);
            Run five = reads("five", flags, DENSE, 25, 0x50 + wire, 1, 2, 2, 1, 2, 0);
            CHECK.same("five", Use.values(five, 1), "1 0 0 1 0");
        }
        Run bytes = latest("1 list byte required");
        refuses("flags of wire type 2", LACKS, bytes, DENSE, 25, 0x12, 1, 0);
    }

    private static void givesWay() {
        CHECK.of("has its value then (one that came before gives way)");
        for (int form = 0; form <= 1; form++) {
            Run numbers = latest("1 byte", "2 list byte", "3 text", "4 struct 1");
            int[] none = listField(form, 1, 2, 0);
            int[] one = listField(form, 1, 2, 1);
            int[] five = listField(form, 1, 2, 5);
            Run x = reads("another number", numbers, form,
                    ended(head(form, 1, 1), Row.of(1), head(form, 1, 1), Row.of(255)));
            CHECK.same("the later number", Use.values(x, 1), "-1");
            x = reads("a shorter list", numbers, form, ended(five, one));
            CHECK.same("the shorter list", Use.values(x, 2), "7");
            x = reads("a longer list", numbers, form, ended(one, five));
            CHECK.same("the longer list", Use.values(x, 2), "7 7 7 7 7");
            x = reads("an empty list", numbers, form, ended(five, none));
            CHECK.same("the empty list", Use.values(x, 2), "");
            CHECK.same("is still a value", x.encode(1), 3);
            x = reads("a shorter text", numbers, form,
                    ended(textField(form, 3, 97, 98, 99), textField(form, 3, 100)));
            CHECK.same("the shorter text", Use.texts(x, 3), "/d");
            x = reads("an empty text", numbers, form,
                    ended(textField(form, 3, 97, 98, 99), textField(form, 3)));
            CHECK.same("the empty text", Use.texts(x, 3), "/");
            int[] full = ended(field(form, 1, 1), five, textField(form, 3, 97));
            x = reads("another record", numbers, form,
                    ended(head(form, STRUCT, 4), full, head(form, STRUCT, 4), Row.of(0)));
            x.go(4, 0);
            for (int id = 1; id <= 4; id++) {
                CHECK.same("nothing of the record before", x.size(id), 0);
            }
            x = reads("what is passed over", numbers, form, ended(field(form, 1, 1), five,
                    field(form, 2, 1), field(form, LIST, 1), listField(form, 2, 2, 1)));
            CHECK.same("takes no number away", Use.values(x, 1), "7");
            CHECK.same("takes no list away", Use.values(x, 2), "7 7 7 7 7");
        }
        Run flag = latest("1 flag");
        Run x = reads("59 times a flag", flag, DENSE, ended(Row.times(58, 1, 2), Row.of(2, 2)));
        CHECK.same("the last of them", Use.values(x, 1), "0");
    }

    private static void passedOver() {
        CHECK.of("others are PASSED OVER, by their wire types, with all that is in them");
        Run x = latest("1 byte", "2 short required");
        for (int form = 0; form <= 1; form++) {
            int[] before = field(form, 1, 1);
            int[] behind = field(form, 2, 2);
            for (int type = FLAG; type <= LIST; type++) {
                both(TYPES[type], x, form, ended(before, field(form, type, 9), behind));
                both("in a record", x, form, ended(before, head(form, STRUCT, 9),
                        ended(field(form, type, 1), field(form, type, 2)), behind));
                for (int size : new int[] {0, 1, 6}) {
                    both(size + " of " + TYPES[type], x, form,
                            ended(before, listField(form, type, 9, size), behind));
                    both("lists of " + TYPES[type], x, form, ended(before, head(form, LIST, 9),
                            listHead(form, LIST, 2), listHead(form, type, size),
                            Row.times(size, VALUES[form][type]), listHead(form, type, 0), behind));
                }
            }
            both("a long text of other characters", x, form,
                    ended(before, textField(form, 9, 0, 31, 127, 128, 255, 1, 2, 3, 4), behind));
        }
    }

    private static void both(String what, Run schema, int form, int[] bytes) {
        Run x = reads(what + " passed over", schema, form, bytes);
        CHECK.same("before " + what, Use.values(x, 1), "7");
        CHECK.same("behind " + what, Use.values(x, 2), "7");
    }

    private static void idsOfThePlainForm() {
        CHECK.of("its id (two bytes, 0 .. 65535)");
        Run x = latest("1 byte", "255 byte", "256 byte", "999 byte");
        int[][] known = {{1, 0, 1}, {255, 0, 255}, {256, 1, 0}, {999, 3, 231}};
        for (int[] id : known) {
            Run read = reads("id " + id[0], x, PLAIN, 3, id[1], id[2], 7, 0);
            CHECK.same("field " + id[0], Use.values(read, id[0]), "7");
        }
        int[][] others = {{0, 0}, {1, 1}, {255, 255}, {128, 1}, {127, 255}, {128, 0}, {3, 232}};
        for (int[] id : others) {
            Run read = reads("id " + id[0] + " " + id[1], x, PLAIN, 3, id[0], id[1], 7, 0);
            for (int[] own : known) {
                CHECK.same("field " + own[0], read.size(own[0]), 0);
            }
        }
    }

    private static void idsOfTheDenseForm() {
        CHECK.of("id - id of the field before in the record, 0 for the first");
        Run x = latest("1 byte", "15 byte", "16 byte", "31 byte");
        Run read = reads("steps of 15", x, DENSE, 0xF3, 1, 19, 2, 0xF3, 3, 0);
        CHECK.same("15", Use.values(read, 15), "1");
        CHECK.same("16", Use.values(read, 16), "2");
        CHECK.same("31", Use.values(read, 31), "3");
        read = reads("ids whole, downwards", x, DENSE, 3, 62, 1, 3, 32, 2, 3, 2, 3, 0);
        CHECK.same("31", Use.values(read, 31), "1");
        CHECK.same("16", Use.values(read, 16), "2");
        CHECK.same("1", Use.values(read, 1), "3");
        read = reads("a step from what was passed over", x, DENSE, 4, 20, 1, 0x53, 5, 0);
        CHECK.same("15", Use.values(read, 15), "5");
        read = reads("a step from an id below 0", x, DENSE, 3, 9, 1, 0x63, 5, 0);
        CHECK.same("1", Use.values(read, 1), "5");
        read = reads("a step from id 0", x, DENSE, 3, 0, 1, 0x13, 5, 0);
        CHECK.same("1", Use.values(read, 1), "5");
        read = reads("a step behind a record", x, DENSE, 0xEC, 0xF3, 1, 0, 0x13, 2, 0);
        CHECK.same("15", Use.values(read, 15), "2");
    }

    // ---- MALFORMED

    /** Fields of all wire types, some of them passed over, and the end. */
    private static int[] ofAllTypes(int form) {
        int[] all = {};
        for (int type = FLAG; type <= LIST; type++) {
            all = Row.join(all, field(form, type, type + 1));
        }
        return ended(all, listField(form, TEXT, 20, 1), listField(form, STRUCT, 21, 2),
                listField(form, LIST, 22, 1), field(form, 3, 1));
    }

    private static Run withAllTypes() {
        return latest("1 flag", "2 byte", "3 short", "4 int", "6 text", "7 struct 1",
                "8 list byte");
    }

    private static void endsTooEarly() {
        CHECK.of("when bytes end too early");
        for (int form = 0; form <= 1; form++) {
            int[] all = ofAllTypes(form);
            reads("all of them", withAllTypes(), form, all);
            for (int n = 0; n < all.length; n++) {
                malformed("the first " + n, withAllTypes(), form, Row.first(n, all));
            }
        }
        Run flag = latest("1 flag");
        malformed("120 flags without an end", flag, DENSE, Row.times(120, 17));
        reads("119 flags with an end", flag, DENSE, ended(Row.times(119, 17)));
    }

    /** The bytes are full, so that nothing lies behind what is missing. */
    private static void all120EndTooEarly() {
        CHECK.of("when bytes end too early");
        for (int form = 0; form <= 1; form++) {
            int[] all = ofAllTypes(form);
            for (int n = 1; n < all.length && n <= 113; n++) {
                malformed("the first " + n, withAllTypes(), form,
                        Row.join(filler(form, 120 - n), Row.first(n, all)));
            }
            int[] own = head(form, TEXT, 6);
            for (int n = 0; n <= 6; n++) {
                int[] cut = Row.first(own.length + (form == PLAIN ? 4 : 1) + n,
                        textField(form, 6, 97, 97, 97, 97, 97, 97));
                malformed("a text cut behind " + n, withAllTypes(), form,
                        Row.join(filler(form, 120 - cut.length), cut));
            }
        }
    }

    /** A field of so many bytes (7 at least) that is passed over, or as many flags. */
    private static int[] filler(int form, int length) {
        return form == DENSE ? Row.times(length, 17)
                : Row.join(Row.of(11, 0, 99), Row.wide(length - 7), Row.times(length - 7, 0));
    }

    private static void someLeft() {
        CHECK.of("or some are left");
        for (int form = 0; form <= 1; form++) {
            for (int more : new int[] {0, 1, 17, 255}) {
                malformed("one left", withAllTypes(), form,
                        Row.join(ofAllTypes(form), Row.of(more)));
                malformed("one left behind an end", latest("1 int"), form, 0, more);
                malformed("one left behind a lack", latest("1 int required"), form, 0, more);
            }
            malformed("119 left", latest("1 int"), form, Row.times(120, 0));
        }
    }

    private static boolean isWire(int form, int wire) {
        for (int own : WIRES[form]) {
            if (wire == own) {
                return true;
            }
        }
        return form == DENSE && wire == 2;
    }

    private static void wireTypesThatAreNone() {
        CHECK.of("a wire type that is none of those");
        Run x = latest("1 list int");
        for (int wire = 0; wire < 256; wire++) {
            boolean is = isWire(PLAIN, wire);
            for (int id : new int[] {1, 9}) {
                readsOrNot("a plain list", is, x, PLAIN, 15, 0, id, wire, 0, 0, 0, 0, 0);
                if (!is && wire > 0) {
                    malformed("a plain field " + wire, x, PLAIN,
                            Row.join(Row.of(wire, 0, id), Row.times(12, 0)));
                }
                if (!is) {
                    malformed("in a plain list " + wire, x, PLAIN,
                            Row.join(Row.of(15, 0, id, wire, 0, 0, 0, 1), Row.times(12, 0)));
                }
            }
            readsOrNot("a plain list in a list", is, x, PLAIN,
                    15, 0, 9, 15, 0, 0, 0, 1, wire, 0, 0, 0, 0, 0);
        }
        for (int wire = 0; wire < 16; wire++) {
            boolean is = isWire(DENSE, wire);
            for (int step = 1; step < 16 && !is; step++) {
                malformed("a dense field " + wire, x, DENSE, 16 * step + wire, 0, 0, 0);
                malformed("in a dense list " + wire, x, DENSE, 25, 16 * step + wire, 0, 0, 0);
            }
            readsOrNot("a dense list", is, x, DENSE, 25, wire, 0);
            readsOrNot("a dense list passed over", is, x, DENSE, 0x99, wire, 0);
            readsOrNot("a dense list in a list", is, x, DENSE, 25, 0x19, wire, 0);
            if (!is && wire > 0) {
                malformed("a dense field with an id", x, DENSE, wire, 2, 0, 0, 0);
            }
        }
    }

    private static void readsOrNot(String what, boolean can, Run schema, int form, int... bytes) {
        String told = what + " " + Row.told(bytes);
        if (can) {
            reads(told, schema, form, bytes);
        } else {
            malformed(told, schema, form, bytes);
        }
    }

    private static void plainFlags() {
        CHECK.of("a plain flag that is not 0 or 1");
        Run x = latest("1 flag", "2 list flag");
        for (int b = 0; b < 256; b++) {
            boolean can = b <= 1;
            readsOrNot("a field", can, x, PLAIN, 2, 0, 1, b, 0);
            readsOrNot("a field passed over", can, x, PLAIN, 2, 0, 9, b, 0);
            readsOrNot("a list", can, x, PLAIN, 15, 0, 2, 2, 0, 0, 0, 2, 1, b, 0);
            readsOrNot("a list passed over", can, x, PLAIN, 15, 0, 9, 2, 0, 0, 0, 2, b, 1, 0);
            readsOrNot("in a record passed over", can, x, PLAIN, 12, 0, 9, 2, 0, 1, b, 0, 0);
        }
        Run read = reads("0 and 1", x, PLAIN, 15, 0, 2, 2, 0, 0, 0, 2, 0, 1, 0);
        CHECK.same("0 and 1", Use.values(read, 2), "0 1");
        malformed("in a list that is too great", x, PLAIN,
                15, 0, 2, 2, 0, 0, 0, 6, 0, 1, 0, 1, 0, 2, 0);
    }

    private static void denseFlagsInLists() {
        CHECK.of("a dense one in a list that is not 1 or 2");
        Run x = latest("1 list flag");
        for (int b = 0; b < 256; b++) {
            boolean can = b == 1 || b == 2;
            for (int wire = 1; wire <= 2; wire++) {
                readsOrNot("a list", can, x, DENSE, 25, 0x20 + wire, 1, b, 0);
                readsOrNot("a list passed over", can, x, DENSE, 0x99, 0x20 + wire, b, 2, 0);
            }
            readsOrNot("a list in a list", can, x, DENSE, 0x99, 0x19, 0x11, b, 0);
        }
        Run read = reads("2 and 1", x, DENSE, 25, 0x22, 2, 1, 0);
        CHECK.same("2 and 1", Use.values(read, 1), "0 1");
        malformed("in a list that is too great", x, DENSE, 25, 0x61, 1, 2, 1, 2, 1, 3, 0);
    }

    /** As there are at most 120 bytes, a length of 120 itself always ends too early. */
    private static void lengths() {
        CHECK.of("a length or size below 0 or above 120");
        Run x = latest("1 text", "2 list text");
        int[] plain = {11, 0, 9};
        for (int length = 0; length <= 130; length++) {
            int[] told = Row.join(plain, Row.wide(length));
            int[] dense = Row.join(Row.of(0x98), Row.varint(length, 2));
            if (length <= 112) {
                reads("a plain length " + length, x, PLAIN, ended(told, Row.times(length, 0)));
            } else {
                malformed("a plain length " + length, x, PLAIN, ended(told, Row.times(112, 0)));
            }
            if (length <= 116) {
                reads("a dense length " + length, x, DENSE, ended(dense, Row.times(length, 0)));
            } else {
                malformed("a dense length " + length, x, DENSE, ended(dense, Row.times(116, 0)));
            }
        }
        reads("a dense length 117", x, DENSE, ended(Row.of(0x98, 117), Row.times(117, 255)));
        for (int length : new int[] {-1, -2, -120, 121, 255, 256, 65536, 1 << 24,
            Integer.MIN_VALUE, Integer.MAX_VALUE}) {
            int[] told = Row.wide(length);
            int[] rest = Row.times(6, 97);
            malformed("a text of " + length, x, PLAIN, ended(Row.of(11, 0, 1), told, rest));
            malformed("passed over", x, PLAIN, ended(plain, told, rest));
            malformed("in a list", x, PLAIN,
                    ended(Row.of(15, 0, 2, 11, 0, 0, 0, 1), told, rest));
            malformed("no byte behind it", x, PLAIN, Row.join(plain, told));
        }
    }

    /** Lengths that are right only when they are cut to fewer bits. */
    private static void lengthsThatWrap() {
        CHECK.of("what comes of 64 bits is as a long");
        Run x = latest("1 text", "2 list text");
        for (int bits : new int[] {7, 8, 16, 31, 32, 33, 63}) {
            int[] told = Row.varint((1L << bits) + 1, 10);
            for (int head : new int[] {0x18, 0x98}) {
                malformed("2^" + bits + " + 1", x, DENSE, ended(Row.of(head), told, Row.of(97)));
            }
            malformed("in a list", x, DENSE, ended(Row.of(0x29, 0x18), told, Row.of(97)));
        }
        malformed("-1", x, DENSE, ended(Row.of(0x18), Row.varint(-1, 10)));
        malformed("the least", x, DENSE, ended(Row.of(0x18), Row.varint(Long.MIN_VALUE, 10)));
        Run read = reads("2^64 + 1, of which 1 counts", x, DENSE,
                Row.join(Row.of(0x18, 129), Row.times(8, 128), Row.of(2, 97, 0)));
        CHECK.same("the text", Use.texts(read, 1), "/a");
    }

    private static void sizes() {
        CHECK.of("a length or size below 0 or above 120");
        Run x = latest("1 list byte");
        for (int size = 0; size <= 130; size++) {
            int[] told = Row.join(Row.of(15, 0, 9, 3), Row.wide(size));
            int[] known = Row.join(Row.of(15, 0, 1, 3), Row.wide(size));
            if (size <= 111) {
                reads("a size " + size, x, PLAIN, ended(told, Row.times(size, 1)));
            } else {
                malformed("a size " + size, x, PLAIN, ended(told, Row.times(111, 1)));
                malformed("a size " + size, x, PLAIN, ended(known, Row.times(111, 1)));
            }
        }
        for (int size : new int[] {-1, -5, -120, 121, 256, 65536, 1 << 24, (1 << 24) + 1,
            Integer.MIN_VALUE, Integer.MIN_VALUE + 1, Integer.MAX_VALUE}) {
            for (int id : new int[] {1, 9}) {
                malformed("a size " + size, x, PLAIN,
                        ended(Row.of(15, 0, id, 3), Row.wide(size), Row.of(1)));
                malformed("a size " + size, x, PLAIN,
                        ended(Row.of(15, 0, id, 3), Row.wide(size)));
            }
            malformed("in a list", x, PLAIN,
                    ended(Row.of(15, 0, 9, 15, 0, 0, 0, 1, 3), Row.wide(size)));
        }
        for (int size = 0; size <= 15; size++) {
            reads("a dense size " + size, x, DENSE,
                    ended(Row.of(0x99, 16 * size + 3), Row.times(size, 1)));
        }
    }

    private static void varintsOfMoreThanTen() {
        CHECK.of("a varint of more than ten bytes");
        Run x = latest("1 long", "2 list long", "3 text", "4 short");
        int[][] before = {{22}, {0x96}, {41, 0x16}, {0x99, 0x16}, {0x38}, {0x98}, {0x44}, {0x94}};
        for (int[] head : before) {
            reads("ten bytes", x, DENSE, ended(head, Row.varint(0, 10)));
            malformed("eleven bytes", x, DENSE, ended(head, Row.varint(0, 11)));
            malformed("twelve bytes", x, DENSE, ended(head, Row.varint(0, 12)));
            malformed("ten that do not end", x, DENSE, ended(head, Row.times(10, 128)));
            malformed("ten that do not end", x, DENSE, Row.join(head, Row.times(10, 128)));
        }
        for (int wire : new int[] {3, 4}) {
            int[] value = {0, 0};
            reads("an id of ten", x, DENSE,
                    Row.join(Row.of(wire), Row.varint(2, 10), value));
            malformed("an id of eleven", x, DENSE,
                    Row.join(Row.of(wire), Row.varint(2, 11), value));
        }
    }

    private static void varintsLongerThanNeeded() {
        CHECK.of("shorter ones are right also when they are not as short as can be");
        Run x = latest("1 long", "2 text", "3 short", "4 list int");
        for (int length = 1; length <= 10; length++) {
            Run read = reads(length + " bytes", x, DENSE,
                    ended(Row.of(22), Row.varint(3, length), Row.of(24), Row.varint(1, length),
                            Row.of(97, 20), Row.varint(2, length), Row.of(25, 0x25),
                            Row.varint(1, length), Row.varint(126, length)));
            CHECK.same("a long", Use.values(read, 1), "-2");
            CHECK.same("a text", Use.texts(read, 2), "/a");
            CHECK.same("a short", Use.values(read, 3), "1");
            CHECK.same("ints", Use.values(read, 4), "-1 63");
            read = reads("an id of " + length, x, DENSE,
                    ended(Row.of(6), Row.varint(2, length), Row.of(4)));
            CHECK.same("a long", Use.values(read, 1), "2");
        }
    }

    private static void bitsBeyond64() {
        CHECK.of("bits beyond 64 do not count, and what comes of 64 bits is as a long");
        Run x = latest("1 long", "2 text", "3 short");
        int[] nine = Row.times(9, 128);
        for (int tenth = 0; tenth < 128; tenth++) {
            boolean counts = tenth % 2 == 1;
            Run read = reads("a long", x, DENSE, ended(Row.of(22), nine, Row.of(tenth)));
            CHECK.same("the long", read.value(1, 0), counts ? 1L << 62 : 0);
            readsOrNot("a length", !counts, x, DENSE, ended(Row.of(40), nine, Row.of(tenth)));
            readsOrNot("a short", !counts, x, DENSE, ended(Row.of(52), nine, Row.of(tenth)));
            readsOrNot("an id", !counts, x, DENSE, ended(Row.of(3), nine, Row.of(tenth, 7)));
            reads("a short passed over", x, DENSE, ended(Row.of(0x94), nine, Row.of(tenth)));
            malformed("128 more", x, DENSE, ended(Row.of(22), nine, Row.of(128 + tenth)));
        }
        Run least = reads("all bits", x, DENSE, ended(Row.of(22), Row.times(9, 255), Row.of(1)));
        CHECK.same("all bits", least.value(1, 0), Long.MIN_VALUE);
        Run most = reads("all but the first", x, DENSE,
                ended(Row.of(22, 254), Row.times(8, 255), Row.of(127)));
        CHECK.same("all but the first", most.value(1, 0), Long.MAX_VALUE);
    }

    private static int[] zigzag(long v) {
        return Row.varint(v >= 0 ? 2 * v : -2 * v - 1, 10);
    }

    private static void zigzagsThatFit() {
        CHECK.of("a zigzag that does not fit its type");
        String[] types = {"short", "int", "long"};
        long[][] values = {{-32768, -32767, -1, 0, 32767}, {-2147483648L, -32769, 0, 2147483647L},
            {Long.MIN_VALUE, Long.MIN_VALUE + 1, -2147483649L, Long.MAX_VALUE}};
        for (int t = 0; t < types.length; t++) {
            Run x = latest("1 " + types[t], "2 list " + types[t]);
            for (long v : values[t]) {
                Run read = reads(types[t] + " " + v, x, DENSE, ended(Row.of(20 + t), zigzag(v),
                        Row.of(25, 0x24 + t), zigzag(0), zigzag(v)));
                CHECK.same(types[t], read.value(1, 0), v);
                CHECK.same("list " + types[t], Use.values(read, 2), "0 " + v);
            }
        }
    }

    private static final long[][] NO_FIT = {
        {-32769, 32768, 65535, 65536, 65537, 1L << 32, (1L << 32) + 5, Long.MIN_VALUE,
            Long.MAX_VALUE},
        {-2147483649L, 2147483648L, 4294967295L, 1L << 32, (1L << 32) + 5, Long.MIN_VALUE,
            Long.MAX_VALUE}
    };

    private static void zigzagsThatDoNotFit() {
        CHECK.of("a zigzag that does not fit its type");
        String[] types = {"short", "int"};
        for (int t = 0; t < types.length; t++) {
            Run x = latest("1 " + types[t], "2 list " + types[t], "3 struct 1");
            for (long v : NO_FIT[t]) {
                malformed(types[t] + " " + v, x, DENSE, ended(Row.of(20 + t), zigzag(v)));
                malformed("the first of a list", x, DENSE,
                        ended(Row.of(41, 0x24 + t), zigzag(v), zigzag(0)));
                malformed("the last of five", x, DENSE, ended(Row.of(41, 0x54 + t),
                        Row.times(4, 0), zigzag(v)));
                malformed("in a record", x, DENSE, ended(Row.of(60, 20 + t), zigzag(v), Row.of(0)));
                malformed("though it gives way", x, DENSE,
                        ended(Row.of(20 + t), zigzag(v), Row.of(4 + t, 2, 0)));
            }
        }
    }

    private static void zigzagsPassedOver() {
        CHECK.of("a value only when it is not passed over");
        String[] types = {"short", "int"};
        for (int t = 0; t < types.length; t++) {
            int wire = 4 + t;
            Run x = latest("1 " + types[t], "2 list " + types[t], "3 byte");
            for (long v : NO_FIT[t]) {
                int[] told = zigzag(v);
                reads("another id", x, DENSE, ended(Row.of(0x90 + wire), told));
                reads("another type", x, DENSE, ended(Row.of(0x30 + wire), told));
                reads("another list", x, DENSE, ended(Row.of(0x99, 0x10 + wire), told));
                reads("a list for no list", x, DENSE, ended(Row.of(25, 0x10 + wire), told));
                reads("no list for a list", x, DENSE, ended(Row.of(0x20 + wire), told));
                reads("a list in a list", x, DENSE, ended(Row.of(25, 0x19, 0x10 + wire), told));
                reads("in a record", x, DENSE, ended(Row.of(0x9C, 16 + wire), told, Row.of(0)));
                refuses("in a list that is too great", TOO_GREAT, x, DENSE,
                        ended(Row.of(41, 0x60 + wire), Row.times(5, 0), told));
            }
        }
    }

    private static void idsThatDoNotFit() {
        CHECK.of("an id: -32768 .. 32767");
        Run x = latest("1 byte");
        for (long id : new long[] {-32768, -32767, -1, 0, 2, 32766, 32767}) {
            Run read = reads("id " + id, x, DENSE, ended(Row.of(3), zigzag(id), Row.of(7)));
            CHECK.same("field 1", read.size(1), 0);
            reads("in a record", x, DENSE, ended(Row.of(28, 3), zigzag(id), Row.of(7, 0)));
        }
        for (long id : new long[] {-32769, 32768, 65536, 65537, -65535, (1L << 32) + 1, 1L << 62,
            Long.MIN_VALUE, Long.MAX_VALUE}) {
            malformed("id " + id, x, DENSE, ended(Row.of(3), zigzag(id), Row.of(7)));
            malformed("in a record passed over", x, DENSE,
                    ended(Row.of(28, 3), zigzag(id), Row.of(7, 0)));
            malformed("in a list passed over", x, DENSE,
                    ended(Row.of(25, 0x1C, 3), zigzag(id), Row.of(7, 0)));
        }
    }

    // ---- depth

    /** So many records, the root among them, each but the root in a field of the one before. */
    private static int[] records(int form, int id, int many) {
        return Row.join(Row.times(many - 1, head(form, STRUCT, id)), Row.times(many, 0));
    }

    private static int[] recordsInLists(int form, int id, int many) {
        int[] head = Row.join(head(form, LIST, id), listHead(form, STRUCT, 1));
        return Row.join(Row.times(many - 1, head), Row.times(many, 0));
    }

    private static void recordsSixDeep() {
        CHECK.of("a record or list that is more than 6 DEEP (the root is 1 deep");
        for (int form = 0; form <= 1; form++) {
            for (int many = 1; many <= 9; many++) {
                for (int id : new int[] {1, 9}) {
                    int[] row = records(form, id, many);
                    readsOrNot(many + " records", many <= 6, tree(), form, row);
                    malformed(many + " records, an end too few", tree(), form,
                            Row.first(row.length - 1, row));
                }
            }
            int[] inner = Row.join(head(form, STRUCT, 9), records(form, 1, 5));
            readsOrNot("6 records, the second passed over", true, tree(), form, ended(inner));
            int[] deeper = Row.join(head(form, STRUCT, 9), records(form, 1, 6));
            readsOrNot("7 records, the second passed over", false, tree(), form, ended(deeper));
            int[] two = Row.join(head(form, STRUCT, 1), records(form, 1, 5));
            readsOrNot("twice 6 records", true, tree(), form, ended(two, two));
        }
    }

    private static void recordsInListsSixDeep() {
        CHECK.of("a list that is a field's value is as deep as its record");
        for (int form = 0; form <= 1; form++) {
            for (int many = 1; many <= 8; many++) {
                for (int id : new int[] {2, 1, 9}) {
                    int[] row = recordsInLists(form, id, many);
                    readsOrNot(many + " records in lists", many <= 6, tree(), form, row);
                    malformed(many + " records in lists, an end too few", tree(), form,
                            Row.first(row.length - 1, row));
                }
            }
            int[] list = head(form, LIST, 2);
            int[] last = Row.join(head(form, STRUCT, 1), Row.of(0, 0));
            int[] five = Row.join(list, listHead(form, STRUCT, 5), Row.times(4, 0));
            readsOrNot("5 elements, the last with 4 more", true, tree(), form,
                    ended(five, records(form, 1, 5)));
            readsOrNot("5 elements, the last with 5 more", false, tree(), form,
                    ended(five, records(form, 1, 6)));
            readsOrNot("an element and one in it", true, tree(), form,
                    ended(list, listHead(form, STRUCT, 1), last));
        }
    }

    /** So many lists, the first of them a field's value, each other an element of that before. */
    private static int[] lists(int form, int many, int[] inmost) {
        return Row.join(Row.times(many - 1, listHead(form, LIST, 1)), inmost);
    }

    private static void listsInListsSixDeep() {
        CHECK.of("and a list that is an element of a list, is one deeper than what it lies in");
        for (int form = 0; form <= 1; form++) {
            for (int many = 1; many <= 9; many++) {
                for (int id : new int[] {1, 2, 9}) {
                    int[] head = head(form, LIST, id);
                    int[] row = ended(head, lists(form, many, listHead(form, 1, 0)));
                    readsOrNot(many + " lists", many <= 6, tree(), form, row);
                    malformed(many + " lists, without an end", tree(), form,
                            Row.first(row.length - 1, row));
                    readsOrNot(many + " lists, with a byte", many <= 6, tree(), form, ended(head,
                            lists(form, many, Row.join(listHead(form, 1, 1), Row.of(7)))));
                    readsOrNot(many + " lists, and none in the last", many <= 6, tree(), form,
                            ended(head, lists(form, many, listHead(form, LIST, 0))));
                    readsOrNot(many + " lists, and a record in the last", many <= 5, tree(), form,
                            ended(head, lists(form, many,
                                    Row.join(listHead(form, STRUCT, 1), Row.of(0)))));
                }
            }
        }
    }

    private static void listsAsDeepAsTheirRecord() {
        CHECK.of("a list that is a field's value is as deep as its record");
        for (int form = 0; form <= 1; form++) {
            for (int many = 1; many <= 7; many++) {
                int[] heads = Row.times(many - 1, head(form, STRUCT, 1));
                int[] ends = Row.times(many, 0);
                Run x = tree("3 list byte");
                for (int id : new int[] {3, 9}) {
                    readsOrNot("a list in record " + many, many <= 6, x, form,
                            Row.join(heads, listField(form, 1, id, 1), ends));
                    readsOrNot("a list in a list in record " + many, many <= 5, x, form,
                            Row.join(heads, listField(form, LIST, id, 1), ends));
                    readsOrNot("a record in a list in record " + many, many <= 5, x, form,
                            Row.join(heads, listField(form, STRUCT, id, 1), ends));
                    readsOrNot("an empty list of lists in record " + many, many <= 6, x, form,
                            Row.join(heads, listField(form, LIST, id, 0), ends));
                }
            }
        }
    }

    // ---- TOO GREAT

    private static void textsTooLong() {
        CHECK.of("would be a text of more than 6 characters");
        Run x = latest("1 text", "2 list text", "3 struct 1");
        for (int form = 0; form <= 1; form++) {
            for (int length : new int[] {0, 1, 5, 6, 7, 8, 100}) {
                int[] text = Row.times(length, 97);
                int[] field = textField(form, 1, text);
                int[] list = Row.join(head(form, LIST, 2), listHead(form, TEXT, 2), text(form),
                        text(form, text));
                if (length <= 6) {
                    Run read = reads("a text of " + length, x, form, ended(field));
                    CHECK.same("its length", read.value(1, 0), length);
                    read = reads("a text of " + length + " in a list", x, form, ended(list));
                    CHECK.same("its length", read.value(2, 1), length);
                } else {
                    refuses("a text of " + length, TOO_GREAT, x, form, ended(field));
                    refuses("in a list", TOO_GREAT, x, form, ended(list));
                    refuses("in a record", TOO_GREAT, x, form,
                            ended(head(form, STRUCT, 3), ended(field)));
                    refuses("though it gives way", TOO_GREAT, x, form,
                            ended(field, textField(form, 1, 97)));
                }
                reads("passed over", x, form, ended(textField(form, 9, text)));
                reads("for no text", x, form, ended(textField(form, 3, text)));
                reads("for a list", x, form, ended(textField(form, 2, text)));
            }
        }
    }

    private static void textsOfOtherCharacters() {
        CHECK.of("or of others than 32 .. 126");
        Run x = latest("1 text", "2 list text");
        for (int form = 0; form <= 1; form++) {
            for (int c = 0; c < 256; c++) {
                for (int[] text : new int[][] {{c}, {c, 97, 97, 97, 97, 97}, {97, 97, c}}) {
                    int[] list = Row.join(head(form, LIST, 2), listHead(form, TEXT, 2),
                            text(form, 97), text(form, text));
                    if (c >= 32 && c <= 126) {
                        Run read = reads("character " + c, x, form,
                                ended(textField(form, 1, text)));
                        CHECK.same("it", read.letter(1, 0, text.length == 3 ? 2 : 0), c);
                        reads("in a list", x, form, ended(list));
                    } else {
                        refuses("character " + c, TOO_GREAT, x, form,
                                ended(textField(form, 1, text)));
                        refuses("in a list", TOO_GREAT, x, form, ended(list));
                        reads("passed over", x, form, ended(textField(form, 9, text)));
                    }
                }
            }
        }
    }

    private static void listsTooLong() {
        CHECK.of("or a list of more than 5");
        for (int type = FLAG; type <= STRUCT; type++) {
            Run x = latest("1 list " + TYPES[type], "2 struct 1");
            for (int form = 0; form <= 1; form++) {
                for (int size : new int[] {4, 5, 6, 7, 11}) {
                    int[] list = listField(form, type, 1, size);
                    if (size <= 5) {
                        Run read = reads(size + " of " + TYPES[type], x, form, ended(list));
                        CHECK.same("its size", read.size(1), size);
                    } else {
                        refuses(size + " of " + TYPES[type], TOO_GREAT, x, form, ended(list));
                        refuses("in a record", TOO_GREAT, x, form,
                                ended(head(form, STRUCT, 2), ended(list)));
                        refuses("though it gives way", TOO_GREAT, x, form,
                                ended(list, listField(form, type, 1, 1)));
                    }
                    reads("passed over", x, form, ended(listField(form, type, 9, size)));
                    int other = type == 1 ? 2 : 1;
                    reads("of others", x, form, ended(listField(form, other, 1, size)));
                }
            }
        }
    }

    private static void whatIsInATooLongList() {
        CHECK.of("(what is in such a list is passed over)");
        Run shorts = latest("1 list short");
        int[] wide = zigzag(32768);
        malformed("five shorts", shorts, DENSE, ended(Row.of(25, 0x54), Row.times(4, 0), wide));
        refuses("six shorts", TOO_GREAT, shorts, DENSE,
                ended(Row.of(25, 0x64), Row.times(5, 0), wide));
        Run records = Use.schema("struct", "struct", "field 1 short required",
                "field 2 list struct 1");
        int[] misfit = ended(Row.of(20), wide);
        malformed("a record that is read", records, DENSE,
                ended(Row.of(20, 0, 25, 0x1C), misfit));
        refuses("six records", TOO_GREAT, records, DENSE,
                ended(Row.of(20, 0, 25, 0x6C), Row.times(5, 0), misfit));
        malformed("what is malformed there is so", records, DENSE,
                ended(Row.of(20, 0, 25, 0x6C), Row.times(5, 0), Row.of(0x27, 0)));
        malformed("it ends too early", records, DENSE, 20, 0, 25, 0x6C, 0, 0, 0, 0, 0, 0);
    }

    // ---- LACKS

    private static void lacksARequiredField() {
        CHECK.of("LACKS something when a required field has no value");
        int[][] empty = {{2, 0, 1, 0}, {3, 0, 1, 0}, {6, 0, 1, 0, 0}, {8, 0, 1, 0, 0, 0, 0},
            {10, 0, 1, 0, 0, 0, 0, 0, 0, 0, 0}, {11, 0, 1, 0, 0, 0, 0}, {12, 0, 1, 0},
            {15, 0, 1, 3, 0, 0, 0, 0}};
        for (int type = FLAG; type <= LIST; type++) {
            Run required = latest("1 " + TYPES[type] + " required");
            Run free = latest("1 " + TYPES[type]);
            for (int form = 0; form <= 1; form++) {
                refuses("nothing for " + TYPES[type], LACKS, required, form, 0);
                reads("nothing, not required", free, form, 0);
                refuses("another id", LACKS, required, form, ended(field(form, type, 2)));
                reads("a value", required, form, ended(field(form, type, 1)));
            }
            reads("a value that is 0 or empty", required, PLAIN, ended(empty[type]));
        }
        Run eight = latest("1 byte required", "2 byte required", "3 byte required",
                "4 byte required", "5 byte required", "6 byte required", "7 byte required",
                "8 byte required");
        reads("eight of eight", eight, DENSE, ended(Row.times(8, 19, 1)));
        for (int id = 1; id <= 8; id++) {
            int[] row = {};
            for (int other = 1; other <= 8; other++) {
                row = other == id ? row : Row.join(row, Row.of(3, 2 * other, 1));
            }
            refuses("all but " + id, LACKS, eight, DENSE, ended(row));
        }
    }

    private static void lacksInARecord() {
        CHECK.of("A record that is not passed over LACKS something");
        Run x = tree("3 byte required");
        for (int form = 0; form <= 1; form++) {
            int[] own = Row.join(head(form, 1, 3), Row.of(5));
            int[] whole = ended(own);
            int[] bare = Row.of(0);
            int[] record = head(form, STRUCT, 1);
            int[] two = Row.join(head(form, LIST, 2), listHead(form, STRUCT, 2));
            refuses("the root", LACKS, x, form, bare);
            reads("the root has it", x, form, whole);
            refuses("the root, not its record", LACKS, x, form, ended(record, whole));
            refuses("its record", LACKS, x, form, ended(own, record, bare));
            reads("both have it", x, form, ended(own, record, whole));
            refuses("the first element", LACKS, x, form, ended(own, two, bare, whole));
            refuses("the last element", LACKS, x, form, ended(own, two, whole, bare));
            reads("both elements have it", x, form, ended(own, two, whole, whole));
            refuses("a record that gives way", LACKS, x, form,
                    ended(own, record, bare, record, whole));
            reads("a record passed over", x, form, ended(own, head(form, STRUCT, 9), bare));
            reads("a record for a list", x, form, ended(own, head(form, STRUCT, 2), bare));
            reads("records for no list", x, form,
                    ended(own, head(form, LIST, 1), listHead(form, STRUCT, 1), bare));
            int[] deep = Row.times(5, Row.join(own, record));
            reads("six deep", x, form, Row.join(deep, own, Row.times(6, 0)));
            refuses("six deep", LACKS, x, form, Row.join(deep, Row.times(6, 0)));
        }
    }
}
