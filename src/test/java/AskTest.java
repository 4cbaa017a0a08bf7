/** Promises 12 to 19: what can be asked. */
public final class AskTest {
    private static final Check CHECK = new Check();
    private static final int NONE = -1, UNKNOWN = -2, OUTSIDE = -3;

    public static void main(String[] args) {
        constants();
        fieldsAndCaptures();
        below();
        finds();
        findsAsCallsDo();
        log();
        logIsFull();
        counts();
        CHECK.end();
    }

    private static void constants() {
        CHECK.due("NONE", MakerOrders.NONE, -1);
        CHECK.due("UNKNOWN", MakerOrders.UNKNOWN, -2);
        CHECK.due("OUTSIDE", MakerOrders.OUTSIDE, -3);
        CHECK.due("STATE", MakerOrders.STATE, -4);
        CHECK.due("ROOM", MakerOrders.ROOM, -5);
    }

    private static void fieldsAndCaptures() {
        MakerOrders x = new MakerOrders();
        x.type(NONE, 1, 1);
        x.type(0, 3, 4);
        x.type(0, 3, 4);
        x.exp(0, 100, 0, 0);
        x.exp(1, 0, 0, 0);
        x.exp(4, 0, 0, 1);
        for (int k = 0; k < 4; k++) {
            x.begins(1, k, k % 2 == 0 ? 1 : 2);
        }
        x.begins(0, 0, 0);
        x.make(1, 4, 21, 22, 23);
        x.make(2, 4, 31, 32, 33);
        for (int k = 0; k < 4; k++) {
            CHECK.due("field " + k, x.field(0, 1, k), k % 2 == 0 ? 4 : 104);
        }
        for (int k = 0; k < 3; k++) {
            CHECK.due("capture " + k, x.capture(0, 1, k), 21 + k);
            CHECK.due("capture of a second object", x.capture(1, 2, k), 31 + k);
        }
        CHECK.due("field of the parent", x.field(0, 0, 0), 100);
        CHECK.due("capture of the parent", x.capture(0, 0, 0), 21);
        int[][] none = {{0, 0, 1}, {0, 1, 4}, {0, 1, -1}, {0, 0, -1}, {0, 2, 0}, {1, 1, 0}, {2, 0, 0},
            {-1, 0, 0}, {0, 3, 0}, {0, -1, 0}, {Integer.MIN_VALUE, 0, 0}, {0, Integer.MAX_VALUE, 0}, {0, 1, Integer.MAX_VALUE}};
        for (int[] ask : none) {
            CHECK.due("no such field", x.field(ask[0], ask[1], ask[2]), 0);
            CHECK.due("no such capture", x.capture(ask[0], ask[1], ask[2]), 0);
        }
        CHECK.due("capture 3", x.capture(0, 1, 3), 0);
    }

    private static void below() {
        MakerOrders x = new MakerOrders();
        x.type(NONE, 0, 0);
        x.type(0, 0, 0);
        x.type(0, 0, 0);
        x.type(1, 0, 0);
        int[][] want = {{1, 0, 0, 0}, {1, 1, 0, 0}, {1, 0, 1, 0}, {1, 1, 0, 1}};
        for (int c = 0; c < 4; c++) {
            for (int other = 0; other < 4; other++) {
                CHECK.due("below(" + c + ", " + other + ")", x.below(c, other), want[c][other]);
            }
        }
        CHECK.due("below(4, 0)", x.below(4, 0), UNKNOWN);
        CHECK.due("below(0, 4)", x.below(0, 4), UNKNOWN);
        CHECK.due("below(-1, 0)", x.below(NONE, 0), UNKNOWN);
        CHECK.due("below(0, -1)", x.below(0, NONE), UNKNOWN);
    }

    /** Of a chain 0, 1, 2: NAME 0 is open, private, open; CLASS 3 stands beside 1. */
    private static MakerOrders chain() {
        MakerOrders x = new MakerOrders();
        x.type(NONE, 0, 0);
        x.type(0, 0, 0);
        x.type(1, 0, 0);
        x.type(0, 0, 0);
        x.exp(0, 0, 0, 0);
        x.method(0, 0, false, NONE);
        x.method(1, 0, true, NONE);
        x.method(2, 0, false, NONE);
        x.method(2, 1, true, NONE);
        return x;
    }

    private static void finds() {
        MakerOrders x = chain();
        CHECK.due("from without", x.finds(2, NONE, 0), 2);
        CHECK.due("from without, by the private one", x.finds(1, NONE, 0), 0);
        CHECK.due("in code of 0", x.finds(2, 0, 0), 2);
        CHECK.due("in code of 1", x.finds(2, 1, 0), 1);
        CHECK.due("in code of 1, of a 1", x.finds(1, 1, 0), 1);
        CHECK.due("in code of 0, of a 1", x.finds(1, 0, 0), 0);
        CHECK.due("of another branch", x.finds(3, 3, 0), 0);
        CHECK.due("private from without", x.finds(2, NONE, 1), NONE);
        CHECK.due("private of one below", x.finds(2, 1, 1), NONE);
        CHECK.due("private of its own", x.finds(2, 2, 1), 2);
        CHECK.due("no such method", x.finds(2, 2, 3), NONE);
        CHECK.due("no class", x.finds(4, NONE, 0), UNKNOWN);
        CHECK.due("c NONE", x.finds(NONE, NONE, 0), UNKNOWN);
        CHECK.due("no code class", x.finds(2, 4, 0), UNKNOWN);
        CHECK.due("code -2", x.finds(2, -2, 0), UNKNOWN);
        CHECK.due("UNKNOWN ahead of OUTSIDE", x.finds(2, 4, 4), UNKNOWN);
        CHECK.due("name 4", x.finds(2, 2, 4), OUTSIDE);
        CHECK.due("name -1", x.finds(2, 2, NONE), OUTSIDE);
        CHECK.due("c above code", x.finds(0, 1, 0), OUTSIDE);
        CHECK.due("c beside code", x.finds(3, 1, 0), OUTSIDE);
    }

    /** Each METHOD logs: the code's CLASS in the LOG is the one that finds() tells. */
    private static void findsAsCallsDo() {
        MakerOrders x = chain();
        x.exp(7, 0, 0, 0);
        for (int c = 0; c < 3; c++) {
            x.act(c, 0, 1, 0, 0);
            x.act(c, NONE, 2, 0, 1);
        }
        x.make(2, 0, 0, 0, 0);
        for (int code = 0; code < 3; code++) {
            CHECK.due("a call in code of " + code, x.logOf(code, 0), x.finds(2, code, 0));
        }
    }

    private static void log() {
        MakerOrders x = new MakerOrders();
        x.type(NONE, 0, 0);
        x.type(0, 0, 0);
        x.exp(1, 0, 0, 0);
        x.exp(0, Long.MIN_VALUE, 0, 0);
        x.act(1, NONE, 1, 0, 0);
        x.act(0, NONE, 1, 0, 1);
        x.act(0, NONE, 2, 0, 1);
        x.make(0, 4, 0, 0, 0);
        x.make(1, 5, 0, 0, 0);
        CHECK.log("log", x, Long.MIN_VALUE, 0, 0, Long.MIN_VALUE, 0, 1, 5, 1, 1);
        int[] none = {-1, 3, 199, 200, Integer.MIN_VALUE, Integer.MAX_VALUE};
        for (int i : none) {
            CHECK.due("logged(" + i + ")", x.logged(i), 0);
            CHECK.due("logOf(" + i + ", 0)", x.logOf(i, 0), NONE);
            CHECK.due("logOf(" + i + ", 1)", x.logOf(i, 1), NONE);
        }
        CHECK.due("logOf(0, 2)", x.logOf(0, 2), NONE);
        CHECK.due("logOf(0, -1)", x.logOf(0, -1), NONE);
        CHECK.due("clear()", x.clear(), 3);
        CHECK.log("cleared", x);
        CHECK.due("logged(0) once cleared", x.logged(0), 0);
        CHECK.due("logOf(0, 0) once cleared", x.logOf(0, 0), NONE);
        CHECK.due("clear() again", x.clear(), 0);
        x.make(0, 4, 0, 0, 0);
        CHECK.log("anew", x, Long.MIN_VALUE, 0, 2);
    }

    private static void logIsFull() {
        MakerOrders x = new MakerOrders();
        x.type(NONE, 0, 0);
        x.exp(1, 0, 0, 0);
        x.method(0, 0, false, NONE);
        for (int i = 0; i < 7; i++) {
            x.act(0, 0, 1, 0, 0);
        }
        x.make(0, 0, 0, 0, 0);
        for (int i = 0; i < 30; i++) {
            CHECK.due("call", x.call(0, 0, i), 0);
        }
        CHECK.due("200 of 210", x.count(3), 200);
        CHECK.due("the first", x.logged(0), 0);
        CHECK.due("the 200th", x.logged(199), 28);
        CHECK.due("the 201st", x.logged(200), 0);
        CHECK.due("clear()", x.clear(), 200);
        x.call(0, 0, 77);
        CHECK.due("seven anew", x.count(3), 7);
        CHECK.due("the first anew", x.logged(0), 77);
    }

    private static void counts() {
        MakerOrders x = new MakerOrders();
        x.type(NONE, 0, 0);
        x.type(0, 0, 0);
        x.exp(0, 0, 0, 0);
        x.exp(6, 0, 0, 0);
        x.exp(10, 0, 1, 0);
        x.act(0, NONE, 1, 0, 2);
        x.act(1, NONE, 1, 0, 1);
        x.method(0, 0, false, 2);
        x.make(0, 0, 0, 0, 0);
        CHECK.counts("make", x, 3, 2, 1, 1, 5, 1, 1, 1);
        x.make(1, 0, 0, 0, 0);
        CHECK.counts("make that FAILS", x, 3, 2, 2, 2, 8, 2, 2, 1);
        x.call(0, 0, 0);
        CHECK.counts("call", x, 3, 2, 2, 2, 5, 1, 1, 1);
        x.clear();
        CHECK.counts("clear", x, 3, 2, 2, 0, 5, 1, 1, 1);
        CHECK.due("count(8)", x.count(8), OUTSIDE);
        CHECK.due("count(-1)", x.count(-1), OUTSIDE);
    }
}
