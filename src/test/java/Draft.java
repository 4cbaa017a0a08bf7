/** A MakerOrders that a test builds, with names for the sorts of EXPS; each answers the number of its EXP. */
final class Draft {
    private static final int NONE = -1;

    final MakerOrders x = new MakerOrders();

    int number(long n) {
        return x.exp(0, n, 0, 0);
    }

    int given() {
        return x.exp(1, 0, 0, 0);
    }

    int capture(long n) {
        return x.exp(2, n, 0, 0);
    }

    int field(long n) {
        return x.exp(3, n, 0, 0);
    }

    int plus(int a, int b) {
        return x.exp(4, 0, a, b);
    }

    int minus(int a, int b) {
        return x.exp(5, 0, a, b);
    }

    int over(int a, int b) {
        return x.exp(6, 0, a, b);
    }

    int call(int name, int a) {
        return x.exp(7, name, a, 0);
    }

    int parentCall(int name, int a) {
        return x.exp(8, name, a, 0);
    }

    int made(int c, int a, int b) {
        return x.exp(9, c, a, b);
    }

    int tried(int a, int b) {
        return x.exp(10, 0, a, b);
    }

    /** One that FAILS by 1, 2, 3 or 8, in code of a CLASS with no METHOD 3 and at most two CAPTURES. */
    int failing(int kind) {
        switch (kind) {
            case 1: return call(3, number(0));
            case 2: return capture(2);
            case 3: return over(number(1), number(0));
            default: return many(301);
        }
    }

    /** One that begins so many EXPS, itself among them: a sum doubles them, a TRY that takes nothing adds one. */
    int many(int exps) {
        if (exps == 1) {
            return number(1);
        }
        int less = many(exps % 2 == 0 ? exps - 1 : (exps - 1) / 2);
        return exps % 2 == 0 ? tried(less, less) : plus(less, less);
    }

    /** One that logs a number and comes to it, where METHOD name is one that logger() has made. */
    int logging(int name, long n) {
        return call(name, number(n));
    }

    /** An open METHOD that logs its GIVEN and comes to it. */
    void logger(int c, int name) {
        int given = given();
        x.method(c, name, false, given);
        x.act(c, name, 1, 0, given);
    }

    /** CLASSES 0 to n less 1, each but the first below the one ahead. */
    void chain(int n, int captures, int fields) {
        for (int c = 0; c < n; c++) {
            x.type(c - 1, captures, fields);
        }
    }

    /** An OBJECT of a CLASS, with nothing GIVEN. */
    int make(int c) {
        return x.make(c, 0, 0, 0, 0);
    }

    void makerActs(int c, int sort, int exp) {
        x.act(c, NONE, sort, 0, exp);
    }
}
