/** Promise 1: a new object; and 14, 15, 16, 18 where there is nothing yet. */
final class NewObjectTest {
    public static void main(String[] args) {
        Check check = new Check("NewObjectTest");
        Run x = new Run();
        for (int what = 0; what <= 3; what++) {
            check.same("count(" + what + ")", x.count(what), 0);
        }
        check.same("count(4)", x.count(4), -1);
        check.same("count(-1)", x.count(-1), -1);
        check.same("at(0)", x.at(0), -1);
        check.same("size(1)", x.size(1), -1);
        check.same("letter(1, 0, 0)", x.letter(1, 0, 0), -1);
        check.no("back()", x.back());
        check.no("begin(0)", x.begin(0));
        check.same("decode(0, 0)", x.decode(0, 0), -1);
        check.same("line()", x.line(), 0);
        check.throwing("number", Check.STATE, () -> x.number(1, 1));
        check.throwing("text", Check.STATE, () -> x.text(1));
        check.throwing("open", Check.STATE, () -> x.open(1));
        check.throwing("go", Check.STATE, () -> x.go(1, 0));
        check.throwing("value", Check.STATE, () -> x.value(1, 0));
        check.throwing("encode(0)", Check.STATE, () -> x.encode(0));
        check.throwing("encode(2)", Check.ARGUMENT, () -> x.encode(2));
        twoObjectsShareNothing(check);
        check.end();
    }

    private static void twoObjectsShareNothing(Check check) {
        Run one = Use.schema("struct", "field 1 int");
        one.begin(0);
        one.feed(7);
        Use.write(one, "struct");
        Run other = new Run();
        check.same("structs of another object", other.count(1), 0);
        check.same("bytes of another object", other.count(0), 0);
        check.same("line() of another object", other.line(), 0);
        check.same("line() of the first", one.line(), 1);
    }
}
