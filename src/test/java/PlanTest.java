/** Promises 1 to 7: a new object, and what is built ahead of any OBJECT. */
public final class PlanTest {
    private static final Check CHECK = new Check();
    private static final int NONE = -1, UNKNOWN = -2, OUTSIDE = -3, STATE = -4, ROOM = -5;

    public static void main(String[] args) {
        aNewObject();
        expSorts();
        expParts();
        expNumbers();
        expOrder();
        expRoom();
        types();
        passed();
        begins();
        methods();
        methodsReplaced();
        acts();
        actRoom();
        stateOnceMade();
        CHECK.end();
    }

    private static void aNewObject() {
        MakerOrders x = new MakerOrders();
        CHECK.counts("new", x, 0, 0, 0, 0, 0, 0, 0, 0);
        CHECK.due("new: result()", x.result(), 0);
        CHECK.due("new: logged(0)", x.logged(0), 0);
        CHECK.due("new: logOf(0, 0)", x.logOf(0, 0), NONE);
        CHECK.due("new: clear()", x.clear(), 0);
        CHECK.due("new: told(0, 0)", x.told(0, 0), UNKNOWN);
        CHECK.due("new: make(0)", x.make(0, 0, 0, 0, 0), UNKNOWN);
        CHECK.due("new: call(0)", x.call(0, 0, 0), UNKNOWN);
        CHECK.due("new: below(0, 0)", x.below(0, 0), UNKNOWN);
        CHECK.due("new: finds(0, 0, 0)", x.finds(0, 0, 0), UNKNOWN);
        CHECK.due("new: field(0, 0, 0)", x.field(0, 0, 0), 0);
        CHECK.due("new: capture(0, 0, 0)", x.capture(0, 0, 0), 0);
        MakerOrders y = new MakerOrders();
        y.exp(0, 1, 0, 0);
        CHECK.due("two objects share nothing", x.count(0), 0);
    }

    private static void expSorts() {
        MakerOrders x = new MakerOrders();
        x.type(NONE, 0, 0);
        for (int sort = 0; sort <= 10; sort++) {
            CHECK.due("exp sort " + sort, x.exp(sort, 0, 0, 0), sort);
        }
        CHECK.due("exp sort -1", x.exp(-1, 0, 0, 0), OUTSIDE);
        CHECK.due("exp sort 11", x.exp(11, 0, 0, 0), OUTSIDE);
        CHECK.due("exp sort least", x.exp(Integer.MIN_VALUE, 0, 0, 0), OUTSIDE);
        CHECK.due("refused exps are not counted", x.count(0), 11);
    }

    private static void expParts() {
        int[] both = {4, 5, 6, 9, 10};
        for (int sort : both) {
            MakerOrders x = oneExp();
            CHECK.due("a of " + sort, x.exp(sort, 0, 1, 0), UNKNOWN);
            CHECK.due("b of " + sort, x.exp(sort, 0, 0, 1), UNKNOWN);
            CHECK.due("a NONE of " + sort, x.exp(sort, 0, NONE, 0), UNKNOWN);
            CHECK.due("b NONE of " + sort, x.exp(sort, 0, 0, NONE), UNKNOWN);
            CHECK.due("parts of " + sort, x.exp(sort, 0, 0, 0), 1);
        }
        for (int sort = 7; sort <= 8; sort++) {
            MakerOrders x = oneExp();
            CHECK.due("a of " + sort, x.exp(sort, 0, 1, 0), UNKNOWN);
            CHECK.due("b is no part of " + sort, x.exp(sort, 0, 0, 99), 1);
        }
        for (int sort = 0; sort <= 3; sort++) {
            MakerOrders x = oneExp();
            CHECK.due("no parts of " + sort, x.exp(sort, 0, -7, 99), 1);
        }
    }

    private static MakerOrders oneExp() {
        MakerOrders x = new MakerOrders();
        x.type(NONE, 0, 0);
        x.exp(0, 1, 0, 0);
        return x;
    }

    private static void expNumbers() {
        long[][] bounds = {{2, 2}, {3, 3}, {7, 3}, {8, 3}};
        for (long[] bound : bounds) {
            MakerOrders x = oneExp();
            int sort = (int) bound[0];
            CHECK.due("n last of " + sort, x.exp(sort, bound[1], 0, 0), 1);
            CHECK.due("n past of " + sort, x.exp(sort, bound[1] + 1, 0, 0), OUTSIDE);
            CHECK.due("n -1 of " + sort, x.exp(sort, -1, 0, 0), OUTSIDE);
            CHECK.due("n that an int would cut of " + sort, x.exp(sort, 1L << 32, 0, 0), OUTSIDE);
        }
        MakerOrders x = oneExp();
        CHECK.due("class of 9", x.exp(9, 0, 0, 0), 1);
        CHECK.due("no class of 9", x.exp(9, 1, 0, 0), UNKNOWN);
        CHECK.due("class -1 of 9", x.exp(9, -1, 0, 0), UNKNOWN);
        CHECK.due("class that an int would cut", x.exp(9, 1L << 32, 0, 0), UNKNOWN);
        int[] free = {0, 1, 4, 5, 6, 10};
        for (int sort : free) {
            CHECK.due("any n of " + sort, x.exp(sort, Long.MIN_VALUE, 0, 0), x.count(0) - 1);
        }
    }

    private static void expOrder() {
        MakerOrders x = oneExp();
        CHECK.due("sort ahead of part", x.exp(11, 9, 9, 9), OUTSIDE);
        CHECK.due("part ahead of n", x.exp(7, 9, 9, 0), UNKNOWN);
    }

    private static void expRoom() {
        MakerOrders x = new MakerOrders();
        for (int i = 0; i < 60; i++) {
            CHECK.due("exp " + i, x.exp(0, i, 0, 0), i);
        }
        CHECK.due("61st exp", x.exp(0, 0, 0, 0), ROOM);
        CHECK.due("ROOM is asked last: sort", x.exp(12, 0, 0, 0), OUTSIDE);
        CHECK.due("ROOM is asked last: part", x.exp(4, 0, 0, 60), UNKNOWN);
        CHECK.due("ROOM is asked last: n", x.exp(2, 3, 0, 0), OUTSIDE);
        CHECK.due("60 exps", x.count(0), 60);
    }

    private static void types() {
        MakerOrders x = new MakerOrders();
        CHECK.due("parent 0 of the first", x.type(0, 0, 0), UNKNOWN);
        CHECK.due("first type", x.type(NONE, 0, 0), 0);
        CHECK.due("parent -2", x.type(-2, 0, 0), UNKNOWN);
        CHECK.due("parent ahead of captures", x.type(1, 9, 9), UNKNOWN);
        CHECK.due("captures -1", x.type(0, -1, 0), OUTSIDE);
        CHECK.due("captures 4", x.type(0, 4, 0), OUTSIDE);
        CHECK.due("fields -1", x.type(0, 0, -1), OUTSIDE);
        CHECK.due("fields 5", x.type(0, 0, 5), OUTSIDE);
        for (int c = 1; c < 8; c++) {
            CHECK.due("type " + c, x.type(c - 1, 3, 4), c);
        }
        CHECK.due("9th type", x.type(NONE, 0, 0), ROOM);
        CHECK.due("OUTSIDE ahead of ROOM", x.type(NONE, 4, 0), OUTSIDE);
        CHECK.due("8 types", x.count(1), 8);
        CHECK.due("class 8 of eight", x.below(8, 0), UNKNOWN);
        CHECK.due("parent 8 of eight", x.type(8, 0, 0), UNKNOWN);
    }

    private static void passed() {
        MakerOrders x = pair();
        CHECK.due("passed", x.passed(1, 0), 1);
        CHECK.due("passed of no class", x.passed(2, 0), UNKNOWN);
        CHECK.due("passed no exp", x.passed(1, 2), UNKNOWN);
        CHECK.due("passed NONE", x.passed(1, NONE), UNKNOWN);
        CHECK.due("passed without a parent", x.passed(0, 0), STATE);
        CHECK.due("UNKNOWN ahead of STATE", x.passed(0, 2), UNKNOWN);
        CHECK.due("passed in place", x.passed(1, 1), 1);
        x.act(0, NONE, 1, 0, 1);
        x.make(1, 8, 0, 0, 0);
        CHECK.log("the latest passed is worked", x, 8, 0, 0);
    }

    /** CLASS 1 below CLASS 0; EXP 0 is 5, EXP 1 GIVEN. */
    private static MakerOrders pair() {
        MakerOrders x = new MakerOrders();
        x.type(NONE, 1, 2);
        x.type(0, 1, 1);
        x.exp(0, 5, 0, 0);
        x.exp(1, 0, 0, 0);
        return x;
    }

    private static void begins() {
        MakerOrders x = pair();
        CHECK.due("begins", x.begins(0, 1, 0), 1);
        CHECK.due("begins of no class", x.begins(2, 0, 0), UNKNOWN);
        CHECK.due("begins with no exp", x.begins(0, 0, 2), UNKNOWN);
        CHECK.due("begins with -2", x.begins(0, 0, -2), UNKNOWN);
        CHECK.due("UNKNOWN ahead of OUTSIDE", x.begins(0, 9, 2), UNKNOWN);
        CHECK.due("field 2 of two", x.begins(0, 2, 0), OUTSIDE);
        CHECK.due("fields of a parent are not its own", x.begins(1, 1, 0), OUTSIDE);
        CHECK.due("field -1", x.begins(0, -1, 0), OUTSIDE);
        CHECK.due("begins 0", x.begins(0, 0, 1), 1);
        CHECK.due("begins with none", x.begins(0, 1, NONE), 1);
        x.make(0, 8, 0, 0, 0);
        CHECK.due("field 0 began", x.field(0, 0, 0), 8);
        CHECK.due("field 1 began with none again", x.field(0, 0, 1), 0);
        CHECK.due("one exp was begun", x.count(4), 1);
    }

    private static void methods() {
        MakerOrders x = pair();
        CHECK.due("method", x.method(0, 3, false, 0), 1);
        CHECK.due("method without result", x.method(0, 0, false, NONE), 1);
        CHECK.due("method of no class", x.method(2, 0, false, 0), UNKNOWN);
        CHECK.due("method with no exp", x.method(0, 0, false, 2), UNKNOWN);
        CHECK.due("UNKNOWN ahead of OUTSIDE", x.method(0, 4, false, 2), UNKNOWN);
        CHECK.due("name 4", x.method(0, 4, false, 0), OUTSIDE);
        CHECK.due("name -1", x.method(0, NONE, false, 0), OUTSIDE);
        x.make(0, 0, 0, 0, 0);
        CHECK.due("call with result", x.call(0, 3, 0), 0);
        CHECK.due("its result", x.result(), 5);
        CHECK.due("call without result", x.call(0, 0, 0), 0);
        CHECK.due("comes to 0", x.result(), 0);
    }

    private static void methodsReplaced() {
        MakerOrders x = pair();
        x.method(0, 0, true, 0);
        x.act(0, 0, 1, 0, 0);
        CHECK.due("private: not found from without", x.finds(0, NONE, 0), NONE);
        CHECK.due("in place", x.method(0, 0, false, 1), 1);
        CHECK.due("open now", x.finds(0, NONE, 0), 0);
        x.make(0, 0, 0, 0, 0);
        CHECK.due("call", x.call(0, 0, 77), 0);
        CHECK.due("the new result", x.result(), 77);
        CHECK.due("the old acts are gone", x.count(3), 0);
    }

    private static void acts() {
        MakerOrders x = pair();
        x.method(0, 1, false, NONE);
        CHECK.due("act of the maker", x.act(0, NONE, 0, 0, 0), 1);
        CHECK.due("act of a method", x.act(0, 1, 1, 0, 0), 1);
        CHECK.due("another", x.act(0, 1, 2, 0, 0), 2);
        CHECK.due("no class", x.act(2, NONE, 1, 0, 0), UNKNOWN);
        CHECK.due("no method", x.act(0, 0, 1, 0, 0), UNKNOWN);
        CHECK.due("no method of its own", x.act(1, 1, 1, 0, 0), UNKNOWN);
        CHECK.due("no exp", x.act(0, 1, 1, 0, 2), UNKNOWN);
        CHECK.due("exp NONE", x.act(0, 1, 1, 0, NONE), UNKNOWN);
        CHECK.due("method ahead of sort", x.act(0, 0, 3, 0, 0), UNKNOWN);
        CHECK.due("exp ahead of name", x.act(0, 4, 1, 0, 2), UNKNOWN);
        CHECK.due("name 4", x.act(0, 4, 1, 0, 0), OUTSIDE);
        CHECK.due("name -2", x.act(0, -2, 1, 0, 0), OUTSIDE);
        CHECK.due("sort 3", x.act(0, 1, 3, 0, 0), OUTSIDE);
        CHECK.due("sort -1", x.act(0, 1, -1, 0, 0), OUTSIDE);
        CHECK.due("n 4 of sort 0", x.act(0, 1, 0, 4, 0), OUTSIDE);
        CHECK.due("n -1 of sort 0", x.act(0, 1, 0, -1, 0), OUTSIDE);
        CHECK.due("n 3 though the class has two", x.act(0, 1, 0, 3, 0), 3);
        CHECK.due("n of sort 1 is not looked at", x.act(0, 1, 1, 99, 0), 4);
        CHECK.due("n of sort 2 is not looked at", x.act(0, 1, 2, -99, 0), 5);
    }

    private static void actRoom() {
        MakerOrders x = pair();
        x.method(0, 0, false, NONE);
        for (int i = 1; i <= 8; i++) {
            CHECK.due("act " + i + " of the maker", x.act(0, NONE, 2, 0, 0), i);
            CHECK.due("act " + i + " of a method", x.act(0, 0, 2, 0, 0), i);
        }
        CHECK.due("9th of the maker", x.act(0, NONE, 2, 0, 0), ROOM);
        CHECK.due("9th of a method", x.act(0, 0, 2, 0, 0), ROOM);
        CHECK.due("OUTSIDE ahead of ROOM", x.act(0, 0, 3, 0, 0), OUTSIDE);
        x.make(0, 0, 0, 0, 0);
        CHECK.due("eight were worked", x.count(4), 8);
        CHECK.due("STATE ahead of ROOM", x.act(0, 0, 2, 0, 0), STATE);
    }

    private static void stateOnceMade() {
        MakerOrders x = pair();
        x.method(0, 0, false, 0);
        x.make(0, 0, 0, 0, 0);
        CHECK.due("passed", x.passed(1, 0), STATE);
        CHECK.due("begins", x.begins(0, 0, 0), STATE);
        CHECK.due("method", x.method(0, 0, false, 1), STATE);
        CHECK.due("act", x.act(0, 0, 1, 0, 0), STATE);
        CHECK.due("OUTSIDE ahead of STATE: begins", x.begins(0, 2, 0), OUTSIDE);
        CHECK.due("OUTSIDE ahead of STATE: method", x.method(0, 4, false, 0), OUTSIDE);
        CHECK.due("OUTSIDE ahead of STATE: act", x.act(0, 0, 3, 0, 0), OUTSIDE);
        CHECK.due("exp goes on", x.exp(0, 0, 0, 0), 2);
        CHECK.due("type goes on", x.type(1, 0, 1), 2);
        CHECK.due("and is made", x.make(2, 0, 0, 0, 0), 1);
        x.call(0, 0, 9);
        CHECK.due("nothing has changed", x.result(), 5);
        CHECK.due("no act either", x.count(3), 0);
    }
}
