/** FAILURES 1, 2, 3 and each way to be SPENT, with what is left behind them. */
public final class FailureTest {
    private static final Check CHECK = new Check();
    private static final int NONE = -1, ROOM = -5;
    private static final int NOTHING = -11, INDEX = -12, ZERO = -13, SPENT = -18;

    public static void main(String[] args) {
        nothingBehindThePart();
        indexes();
        actsBehindAFailure();
        lastExpOfMany();
        deepExps();
        thirteenthMethod();
        thirteenthMaker();
        thirteenthMakerOfAParent();
        lastObject();
        fifthFailure();
        spentIsNotTaken();
        takenAheadOfB();
        CHECK.end();
    }

    private static void nothingBehindThePart() {
        MakerOrders x = new MakerOrders();
        x.type(NONE, 0, 0);
        x.exp(0, 0, 0, 0);
        x.exp(6, 0, 0, 0);
        x.exp(7, 3, 1, 0);
        x.exp(8, 3, 1, 0);
        x.exp(7, 3, 0, 0);
        x.exp(8, 3, 0, 0);
        for (int name = 0; name < 3; name++) {
            x.method(0, name, false, 2 + name);
        }
        x.make(0, 0, 0, 0, 0);
        CHECK.due("7: the part fails first", x.call(0, 0, 0), ZERO);
        CHECK.due("8: the part fails first", x.call(0, 1, 0), ZERO);
        CHECK.due("7: no such method", x.call(0, 2, 0), NOTHING);
        CHECK.due("the part was begun", x.count(4), 2);
        MakerOrders y = new MakerOrders();
        y.type(NONE, 0, 0);
        y.exp(0, 0, 0, 0);
        y.exp(8, 0, 0, 0);
        y.method(0, 0, false, 1);
        y.make(0, 0, 0, 0, 0);
        CHECK.due("8: no parent", y.call(0, 0, 0), NOTHING);
        CHECK.due("the part was begun", y.count(4), 2);
    }

    private static void indexes() {
        MakerOrders x = new MakerOrders();
        x.type(NONE, 2, 2);
        for (int n = 0; n < 3; n++) {
            x.exp(2, n, 0, 0);
            x.exp(3, n, 0, 0);
        }
        x.method(0, 0, false, 4);
        x.method(0, 1, false, 5);
        x.method(0, 2, false, 2);
        x.method(0, 3, false, NONE);
        x.act(0, 3, 0, 1, 2);
        x.act(0, 3, 0, 2, 2);
        x.make(0, 0, 6, 7, 8);
        CHECK.due("capture 2 of two", x.call(0, 0, 0), INDEX);
        CHECK.due("field 2 of two", x.call(0, 1, 0), INDEX);
        CHECK.due("capture 1 of two", x.call(0, 2, 0), 0);
        CHECK.due("its value", x.result(), 7);
        CHECK.due("act on field 2 of two", x.call(0, 3, 0), INDEX);
        CHECK.due("its exp was worked ahead", x.count(4), 2);
        CHECK.due("the act ahead of it stays", x.field(0, 0, 1), 7);
        MakerOrders y = new MakerOrders();
        y.type(NONE, 0, 0);
        y.exp(0, 0, 0, 0);
        y.exp(6, 0, 0, 0);
        y.act(0, NONE, 0, 0, 1);
        CHECK.due("the exp fails ahead of INDEX", y.make(0, 0, 0, 0, 0), ZERO);
    }

    private static void actsBehindAFailure() {
        MakerOrders x = new MakerOrders();
        x.type(NONE, 0, 1);
        x.exp(0, 0, 0, 0);
        x.exp(6, 0, 0, 0);
        x.exp(0, 8, 0, 0);
        x.method(0, 0, false, 2);
        x.act(0, 0, 1, 0, 2);
        x.act(0, 0, 0, 0, 1);
        x.act(0, 0, 1, 0, 0);
        x.method(0, 1, false, 2);
        x.act(0, 1, 1, 0, 1);
        x.make(0, 0, 0, 0, 0);
        CHECK.due("call", x.call(0, 0, 0), ZERO);
        CHECK.log("what was logged stays, what failed and what follows is not", x, 8, 0, 0);
        CHECK.counts("begun", x, 3, 1, 1, 1, 4, 1, 1, 0);
        CHECK.due("call", x.call(0, 1, 0), ZERO);
        CHECK.due("what fails is not logged", x.count(3), 1);
        CHECK.due("an object stays MADE", x.told(0, 1), 1);
    }

    /** Sums of sums: EXP k begins 2 to the k+1 less 1 EXPS. */
    private static MakerOrders sums() {
        MakerOrders x = new MakerOrders();
        x.type(NONE, 0, 0);
        x.exp(0, 1, 0, 0);
        for (int k = 1; k <= 8; k++) {
            x.exp(4, 0, k - 1, k - 1);
        }
        return x;
    }

    private static void lastExpOfMany() {
        MakerOrders x = sums();
        x.method(0, 0, false, 0);
        // 255 + 31 + 7 + 3 + 3 = 299, and the RESULT is the 300th
        int[] acts = {7, 4, 2, 1, 1};
        for (int exp : acts) {
            x.act(0, 0, 2, 0, exp);
        }
        x.method(0, 1, false, 1);
        for (int exp : acts) {
            x.act(0, 1, 1, 0, exp);
        }
        x.make(0, 0, 0, 0, 0);
        CHECK.due("300 EXPS", x.call(0, 0, 0), 0);
        CHECK.due("the 300th came to something", x.result(), 1);
        CHECK.due("300 were begun", x.count(4), 300);
        CHECK.due("the 301st", x.call(0, 1, 0), SPENT);
        CHECK.counts("spent", x, 9, 1, 1, 5, 300, 1, 1, 0);
        CHECK.due("the next call begins anew", x.call(0, 0, 0), 0);
    }

    /** A chain of sums that ends in a CALL of itself: the EXPS stand as deep as they can. */
    private static void deepExps() {
        MakerOrders x = new MakerOrders();
        x.type(NONE, 0, 0);
        x.exp(0, 1, 0, 0);
        x.exp(7, 0, 0, 0);
        for (int k = 2; k < 60; k++) {
            x.exp(4, 0, k - 1, 0);
        }
        x.method(0, 0, false, 59);
        x.make(0, 0, 0, 0, 0);
        CHECK.due("300 deep", x.call(0, 0, 0), SPENT);
        // Sixty EXPS a METHOD: the sixth METHOD has begun when its RESULT is the 301st.
        CHECK.counts("deep", x, 60, 1, 1, 0, 300, 6, 6, 0);
    }

    private static void thirteenthMethod() {
        MakerOrders x = new MakerOrders();
        x.type(NONE, 0, 1);
        x.exp(1, 0, 0, 0);
        x.exp(0, 1, 0, 0);
        x.exp(5, 0, 0, 1);
        // GIVEN less one is handed on until the division by it FAILS, which the TRY takes.
        x.exp(6, 0, 1, 0);
        x.exp(7, 0, 2, 0);
        x.exp(4, 0, 3, 4);
        x.exp(10, 0, 5, 1);
        x.method(0, 0, false, 6);
        x.make(0, 0, 0, 0, 0);
        CHECK.due("12 methods", x.call(0, 0, 11), 0);
        CHECK.due("one, and 1/1", x.result(), 2);
        CHECK.counts("twelve", x, 7, 1, 1, 0, 11 * 9 + 6, 12, 12, 1);
        CHECK.due("the 13th", x.call(0, 0, 12), SPENT);
        CHECK.counts("thirteen", x, 7, 1, 1, 0, 12 * 9, 12, 12, 0);
    }

    private static void thirteenthMaker() {
        MakerOrders x = new MakerOrders();
        x.type(NONE, 1, 1);
        x.exp(0, 7, 0, 0);
        x.exp(9, 0, 0, 0);
        x.begins(0, 0, 1);
        CHECK.due("makers within makers", x.make(0, 0, 3, 0, 0), SPENT);
        CHECK.counts("makers", x, 2, 1, 13, 0, 36, 12, 12, 0);
        for (int object = 0; object < 13; object++) {
            CHECK.due("told(" + object + ", 1)", x.told(object, 1), 2);
        }
        CHECK.due("the first one's capture", x.capture(0, 0, 0), 3);
        CHECK.due("the twelfth one's capture", x.capture(11, 0, 0), 7);
        CHECK.due("the thirteenth sets nothing", x.capture(12, 0, 0), 0);
    }

    /** Eight CLASSES, of which the last makes one of the fifth: eight MAKERS and five make thirteen. */
    private static void thirteenthMakerOfAParent() {
        MakerOrders x = new MakerOrders();
        for (int c = 0; c < 8; c++) {
            x.type(c - 1, 1, 0);
        }
        x.exp(0, 7, 0, 0);
        x.exp(9, 4, 0, 0);
        x.exp(9, 3, 0, 0);
        x.exp(1, 0, 0, 0);
        x.exp(2, 0, 0, 0);
        x.exp(7, 0, 0, 0);
        x.method(7, 0, false, 1);
        x.method(7, 1, false, 2);
        x.act(0, NONE, 2, 0, 5);
        x.passed(1, 0);
        x.method(0, 0, false, NONE);
        CHECK.due("eight makers and a method that makes five", x.make(7, 0, 3, 0, 0), SPENT);
        CHECK.counts("parents", x, 6, 8, 2, 0, 6, 12, 12, 0);
        CHECK.due("the nearest ones are set", x.capture(1, 4, 0), 7);
        CHECK.due("down to the last that began", x.capture(1, 2, 0), 7);
        CHECK.due("the 13th sets nothing", x.capture(1, 1, 0), 0);
        CHECK.due("nor does the one above", x.capture(1, 0, 0), 0);
        CHECK.due("BROKEN", x.told(1, 1), 2);
        CHECK.due("BROKEN around it", x.told(0, 1), 2);
    }

    private static void lastObject() {
        MakerOrders x = new MakerOrders();
        x.type(NONE, 0, 0);
        x.exp(0, 0, 0, 0);
        x.exp(6, 0, 0, 0);
        x.exp(9, 0, 0, 0);
        x.exp(9, 0, 0, 1);
        x.exp(9, 0, 1, 0);
        x.exp(10, 0, 2, 0);
        x.method(0, 0, false, 2);
        x.method(0, 1, false, 3);
        x.method(0, 2, false, 4);
        x.method(0, 3, false, 5);
        for (int i = 0; i < 99; i++) {
            x.make(0, 0, 0, 0, 0);
        }
        CHECK.due("the 100th within a call", x.call(0, 0, 0), 0);
        CHECK.due("the 101st", x.call(0, 0, 0), SPENT);
        CHECK.counts("the 101st", x, 6, 1, 100, 0, 3, 1, 1, 0);
        CHECK.due("b is worked ahead of it", x.call(0, 1, 0), ZERO);
        CHECK.due("a is worked ahead of it", x.call(0, 2, 0), ZERO);
        CHECK.due("no TRY takes it", x.call(0, 3, 0), SPENT);
        CHECK.due("make", x.make(0, 0, 0, 0, 0), ROOM);
    }

    private static void fifthFailure() {
        // The sort of an EXP that FAILS by 1, 2, 3, and how many EXPS it begins until then.
        int[][] kinds = {{7, 2}, {2, 1}, {6, 3}};
        for (int[] kind : kinds) {
            MakerOrders x = new MakerOrders();
            x.type(NONE, 0, 0);
            x.exp(0, 0, 0, 0);
            x.exp(kind[0], 0, 0, 0);
            x.exp(10, 0, 1, 0);
            x.method(0, 1, false, 0);
            x.method(0, 2, false, 0);
            for (int i = 0; i < 4; i++) {
                x.act(0, 1, 2, 0, 2);
                x.act(0, 2, 2, 0, 2);
            }
            x.act(0, 2, 2, 0, 2);
            x.make(0, 0, 0, 0, 0);
            CHECK.due("four FAILURES", x.call(0, 1, 0), 0);
            CHECK.due("four were taken", x.count(7), 4);
            CHECK.due("the fifth", x.call(0, 2, 0), SPENT);
            CHECK.counts("the fifth is not taken", x, 3, 1, 1, 0, 4 * (kind[1] + 2) + kind[1] + 1, 1, 1, 4);
            CHECK.due("a new call counts anew", x.call(0, 1, 0), 0);
        }
    }

    private static void spentIsNotTaken() {
        MakerOrders x = sums();
        x.exp(10, 0, 8, 0);
        x.method(0, 0, false, 9);
        x.make(0, 0, 0, 0, 0);
        CHECK.due("TRY of too many EXPS", x.call(0, 0, 0), SPENT);
        CHECK.due("none was taken", x.count(7), 0);
    }

    /** The 300th EXP FAILS in a TRY: the FAILURE is taken, and b is the 301st. */
    private static void takenAheadOfB() {
        MakerOrders x = sums();
        x.exp(2, 0, 0, 0);
        x.exp(10, 0, 9, 0);
        x.method(0, 0, false, 10);
        // 255 + 31 + 7 + 3 + 1 + 1 = 298
        int[] acts = {7, 4, 2, 1, 0, 0};
        for (int exp : acts) {
            x.act(0, 0, 2, 0, exp);
        }
        x.make(0, 0, 0, 0, 0);
        CHECK.due("b is the 301st", x.call(0, 0, 0), SPENT);
        CHECK.counts("taken", x, 11, 1, 1, 0, 300, 1, 1, 1);
    }
}
