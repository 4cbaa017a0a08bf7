/** The boundary cases of what is answered: the LOG, results, what is told and counted, and 512 calls. */
public final class AnswerBoundsTest {
    private static final Check CHECK = new Check();
    private static final int NONE = -1, UNKNOWN = -2, OUTSIDE = -3, STATE = -4, ROOM = -5;
    private static final int MIN = Integer.MIN_VALUE, MAX = Integer.MAX_VALUE;

    public static void main(String[] args) {
        nothingIsThere();
        twoObjectsShareNothing();
        aHundredObjects();
        aHundredBrokenObjects();
        answersOfMakeThatFails();
        stateOnceObjectsWereMade();
        stateOnceAnObjectIsBroken();
        expsAndTypesAreNoState();
        whatIsBuiltLateIsRun();
        beginsWithNoneAgain();
        results();
        fieldsAndCapturesThatAreThere();
        belowItself();
        theLogHasTwoHundred();
        theLogIsFullInTheMidstOfACall();
        theLogOnceCleared();
        theLogTellsClassAndObject();
        numbersOfTheLog();
        countsOfTheLatest();
        countsOfACallOfNothing();
        fiveHundredAndTwelveCalls();
        CHECK.end();
    }

    private static Draft oneClass() {
        Draft d = new Draft();
        d.x.type(NONE, 1, 1);
        return d;
    }

    // Promise 1: "Nothing is there."
    private static void nothingIsThere() {
        MakerOrders x = new MakerOrders();
        CHECK.counts("new", x, 0, 0, 0, 0, 0, 0, 0, 0);
        CHECK.due("result()", x.result(), 0);
        CHECK.due("clear()", x.clear(), 0);
        CHECK.due("logged(0)", x.logged(0), 0);
        CHECK.due("logOf(0, 0)", x.logOf(0, 0), NONE);
        CHECK.due("logOf(0, 1)", x.logOf(0, 1), NONE);
        CHECK.due("field(0, 0, 0)", x.field(0, 0, 0), 0);
        CHECK.due("capture(0, 0, 0)", x.capture(0, 0, 0), 0);
        CHECK.due("told(0, 0)", x.told(0, 0), UNKNOWN);
        CHECK.due("below(0, 0)", x.below(0, 0), UNKNOWN);
        CHECK.due("finds(0, NONE, 0)", x.finds(0, NONE, 0), UNKNOWN);
        CHECK.due("make(0)", x.make(0, 0, 0, 0, 0), UNKNOWN);
        CHECK.due("call(0, 0)", x.call(0, 0, 0), UNKNOWN);
        CHECK.due("the first EXP", x.exp(0, 0, 0, 0), 0);
        CHECK.due("the first CLASS", x.type(NONE, 0, 0), 0);
        CHECK.due("the first OBJECT", x.make(0, 0, 0, 0, 0), 0);
    }

    private static void twoObjectsShareNothing() {
        MakerOrders full = Scene.FULL_AND_MADE.build();
        MakerOrders x = new MakerOrders();
        CHECK.counts("beside a full one", x, 0, 0, 0, 0, 0, 0, 0, 0);
        CHECK.due("its first CLASS", x.type(NONE, 0, 0), 0);
        CHECK.due("its first OBJECT", x.make(0, 0, 0, 0, 0), 0);
        CHECK.due("the full one stays full", full.make(0, 0, 0, 0, 0), ROOM);
    }

    // Promise 8: "An OBJECT is made: its number"; "ROOM: 100 were"
    private static void aHundredObjects() {
        Draft d = oneClass();
        for (int i = 0; i < 100; i++) {
            CHECK.due("OBJECT " + i, d.x.make(0, 0, i, 0, 0), i);
        }
        for (int i = 0; i < 3; i++) {
            CHECK.due("one more", d.x.make(0, 0, 7, 0, 0), ROOM);
        }
        CHECK.due("OBJECTS", d.x.count(2), 100);
        for (int i = 0; i < 100; i++) {
            CHECK.due("CAPTURE of " + i, d.x.capture(i, 0, 0), i);
        }
        CHECK.due("told of the last", d.x.told(99, 1), 1);
        CHECK.due("told of one more", d.x.told(100, 1), UNKNOWN);
        CHECK.due("its CAPTURE", d.x.capture(100, 0, 0), 0);
        CHECK.due("call on one more", d.x.call(100, 0, 0), UNKNOWN);
    }

    /** BROKEN ones take room too. */
    private static void aHundredBrokenObjects() {
        Draft d = oneClass();
        d.makerActs(0, 2, d.failing(3));
        for (int i = 0; i < 100; i++) {
            CHECK.due("OBJECT " + i, d.make(0), -13);
        }
        CHECK.due("one more", d.make(0), ROOM);
        CHECK.due("OBJECTS (also BROKEN)", d.x.count(2), 100);
        CHECK.due("the last is BROKEN", d.x.told(99, 1), 2);
        CHECK.due("no call on it", d.x.call(99, 0, 0), STATE);
    }

    // Promises 8 and 9: "-10 less the FAILURE"
    private static void answersOfMakeThatFails() {
        int[] kinds = {1, 2, 3, 8};
        for (int kind : kinds) {
            Draft d = oneClass();
            d.x.type(NONE, 0, 0);
            int fails = d.failing(kind);
            d.makerActs(0, 2, fails);
            d.x.method(1, 0, false, fails);
            CHECK.due("a make that FAILS by " + kind, d.make(0), -10 - kind);
            CHECK.due("the next OBJECT", d.make(1), 1);
            CHECK.due("a call that FAILS by " + kind, d.x.call(1, 0, 0), -10 - kind);
        }
    }

    // "passed() to act() are STATE once OBJECTS were made."
    private static void stateOnceObjectsWereMade() {
        Draft d = planned();
        CHECK.due("make that is refused", d.make(2), UNKNOWN);
        building(d, 1);
        CHECK.due("make", d.x.make(1, 1, 1, 0, 0), 0);
        building(d, STATE);
    }

    /** One that FAILED was numbered and is there: told() and count() tell of it. */
    private static void stateOnceAnObjectIsBroken() {
        Draft d = planned();
        d.makerActs(1, 2, d.failing(3));
        CHECK.due("make", d.make(1), -13);
        building(d, STATE);
    }

    private static Draft planned() {
        Draft d = new Draft();
        d.chain(2, 1, 1);
        d.number(5);
        d.x.method(1, 0, false, NONE);
        return d;
    }

    private static void building(Draft d, int want) {
        CHECK.due("passed", d.x.passed(1, 0), want);
        CHECK.due("begins", d.x.begins(1, 0, 0), want);
        CHECK.due("begins with none", d.x.begins(1, 0, NONE), want);
        CHECK.due("method", d.x.method(1, 1, false, 0), want);
        CHECK.due("act of a METHOD", d.x.act(1, 0, 2, 0, 0), want);
        CHECK.due("act of a MAKER", d.x.act(0, NONE, 2, 0, 0), want);
    }

    // exp() and type() stand ahead of passed()
    private static void expsAndTypesAreNoState() {
        Draft d = oneClass();
        d.make(0);
        CHECK.due("exp behind a make", d.number(5), 0);
        CHECK.due("type behind a make", d.x.type(0, 3, 4), 1);
        CHECK.due("exp of 9 with it", d.made(1, 0, 0), 1);
        CHECK.due("make of it", d.make(1), 1);
    }

    /** A CLASS that comes behind the first OBJECT has CAPTURES, and its PARENT's MAKER and METHODS. */
    private static void whatIsBuiltLateIsRun() {
        Draft d = oneClass();
        int given = d.given();
        d.x.begins(0, 0, given);
        d.x.method(0, 0, false, d.capture(0));
        d.make(0);
        d.x.type(0, 3, 4);
        CHECK.due("make", d.x.make(1, 9, 31, 32, 33), 1);
        CHECK.due("its CAPTURE", d.x.capture(1, 1, 2), 33);
        CHECK.due("its FIELD", d.x.field(1, 1, 0), 0);
        CHECK.due("its PARENT is GIVEN 0", d.x.field(1, 0, 0), 0);
        CHECK.due("call", d.x.call(1, 0, 0), 0);
        CHECK.due("the PARENT's CAPTURE", d.x.result(), 31);
    }

    // Promise 5: "(NONE: none)"
    private static void beginsWithNoneAgain() {
        Draft d = oneClass();
        d.number(5);
        CHECK.due("begins", d.x.begins(0, 0, 0), 1);
        CHECK.due("begins with none", d.x.begins(0, 0, NONE), 1);
        d.make(0);
        CHECK.due("FIELD", d.x.field(0, 0, 0), 0);
        CHECK.due("no EXP is begun", d.x.count(4), 0);
    }

    // Promise 10: "What the latest call() that was 0 came to; 0 before."
    private static void results() {
        Draft d = oneClass();
        d.x.method(0, 0, false, d.given());
        d.x.method(0, 1, false, d.failing(3));
        CHECK.due("ahead of all", d.x.result(), 0);
        d.x.make(0, 8, 8, 8, 8);
        CHECK.due("behind a make", d.x.result(), 0);
        CHECK.due("call that FAILS", d.x.call(0, 1, 8), -13);
        CHECK.due("behind it", d.x.result(), 0);
        long[] givens = {5, Long.MIN_VALUE, Long.MAX_VALUE, 0, -13};
        for (long given : givens) {
            CHECK.due("call", d.x.call(0, 0, given), 0);
            CHECK.due("its RESULT", d.x.result(), given);
            CHECK.due("call that FAILS", d.x.call(0, 1, 8), -13);
            CHECK.due("call of nothing", d.x.call(0, 3, 8), -11);
            CHECK.due("call that is refused", d.x.call(0, 4, 8), OUTSIDE);
            CHECK.due("make", d.make(0), d.x.count(2) - 1);
            CHECK.due("the RESULT stays", d.x.result(), given);
        }
    }

    // Promises 12 and 13: "0: there is none such"
    private static void fieldsAndCapturesThatAreThere() {
        int[] around = {MIN, -2, -1, 0, 1, 2, 3, 4, MAX};
        for (int object : around) {
            // A new one for each, so that none has more than 512 calls.
            MakerOrders x = sevens();
            for (int c : around) {
                for (int k : around) {
                    boolean isOf = object == 0 && (c == 0 || c == 1);
                    boolean hasField = isOf && k >= 0 && k < (c == 0 ? 3 : 2);
                    boolean hasCapture = isOf && k >= 0 && k < (c == 0 ? 2 : 3);
                    String asked = "(" + object + ", " + c + ", " + k + ")";
                    CHECK.due("field" + asked, x.field(object, c, k), hasField ? 7 : 0);
                    CHECK.due("capture" + asked, x.capture(object, c, k), hasCapture ? 7 : 0);
                }
            }
        }
    }

    /** An OBJECT of CLASS 1, below 0 and beside 2 and 3; all that it has is 7. */
    private static MakerOrders sevens() {
        Draft d = new Draft();
        d.x.type(NONE, 2, 3);
        d.x.type(0, 3, 2);
        d.x.type(0, 3, 4);
        d.x.type(NONE, 3, 4);
        int given = d.given();
        for (int c = 0; c < 4; c++) {
            d.x.passed(c, given);
            for (int k = 0; k < 4; k++) {
                d.x.begins(c, k, given);
            }
        }
        d.x.make(1, 7, 7, 7, 7);
        return d.x;
    }

    // Promise 14: "Whether a CLASS is another one, or below it"
    private static void belowItself() {
        Draft d = new Draft();
        d.chain(8, 0, 0);
        for (int c = 0; c < 8; c++) {
            for (int other = 0; other < 8; other++) {
                CHECK.due("below(" + c + ", " + other + ")", d.x.below(c, other), other <= c ? 1 : 0);
            }
        }
        int[] wrong = {MIN, -1, 8, MAX};
        for (int c : wrong) {
            CHECK.due("below(" + c + ", 7)", d.x.below(c, 7), UNKNOWN);
            CHECK.due("below(7, " + c + ")", d.x.below(7, c), UNKNOWN);
            CHECK.due("below(" + c + ", " + c + ")", d.x.below(c, c), UNKNOWN);
        }
    }

    /** METHOD 0 logs its GIVEN once, METHOD 1 eight times. */
    private static Draft logger() {
        Draft d = oneClass();
        d.logger(0, 0);
        d.x.method(0, 1, false, NONE);
        for (int i = 0; i < 8; i++) {
            d.x.act(0, 1, 1, 0, 0);
        }
        d.make(0);
        return d;
    }

    private static void fillLog(Draft d, int numbers) {
        for (int i = 0; i < numbers / 8; i++) {
            d.x.call(0, 1, 100 + i);
        }
        for (int i = 0; i < numbers % 8; i++) {
            d.x.call(0, 0, 500 + i);
        }
    }

    // "The LOG has the first 200 numbers"
    private static void theLogHasTwoHundred() {
        for (int numbers = 199; numbers <= 202; numbers++) {
            Draft d = logger();
            fillLog(d, numbers);
            CHECK.due("numbers of " + numbers, d.x.count(3), Math.min(numbers, 200));
            CHECK.due("the first", d.x.logged(0), 100);
            CHECK.due("the 199th", d.x.logged(198), numbers == 199 ? 506 : 124);
            CHECK.due("the 200th", d.x.logged(199), numbers == 199 ? 0 : 124);
            CHECK.due("its OBJECT", d.x.logOf(199, 1), numbers == 199 ? NONE : 0);
            CHECK.due("the 201st", d.x.logged(200), 0);
            CHECK.due("its CLASS", d.x.logOf(200, 0), NONE);
            CHECK.due("a call that logs is well", d.x.call(0, 0, 9), 0);
            CHECK.due("numbers then", d.x.count(3), 200);
            CHECK.due("the 200th then", d.x.logged(199), numbers == 199 ? 9 : 124);
            CHECK.due("clear()", d.x.clear(), 200);
        }
    }

    private static void theLogIsFullInTheMidstOfACall() {
        Draft d = logger();
        fillLog(d, 197);
        CHECK.due("eight more", d.x.call(0, 1, 9), 0);
        CHECK.due("three of them had room", d.x.count(3), 200);
        CHECK.due("the last ahead of them", d.x.logged(196), 504);
        for (int i = 197; i < 200; i++) {
            CHECK.due("number " + i, d.x.logged(i), 9);
        }
        CHECK.due("all eight EXPS were worked", d.x.count(4), 8);
    }

    // "since it was cleared"; promise 19
    private static void theLogOnceCleared() {
        Draft d = logger();
        CHECK.due("clear() of nothing", d.x.clear(), 0);
        d.x.call(0, 0, 5);
        CHECK.due("clear() of one", d.x.clear(), 1);
        CHECK.due("clear() again", d.x.clear(), 0);
        CHECK.due("the number is gone", d.x.logged(0), 0);
        CHECK.due("its CLASS", d.x.logOf(0, 0), NONE);
        CHECK.due("its OBJECT", d.x.logOf(0, 1), NONE);
        fillLog(d, 208);
        CHECK.due("clear() of 208", d.x.clear(), 200);
        d.x.call(0, 0, 6);
        CHECK.log("anew", d.x, 6, 0, 0);
        CHECK.due("none of the old ones is seen", d.x.logged(1), 0);
        fillLog(d, 199);
        CHECK.due("two hundred anew", d.x.count(3), 200);
        CHECK.due("OBJECTS are not cleared", d.x.count(2), 1);
        CHECK.due("nor the latest result", d.x.result(), 506);
    }

    // "each with the code's CLASS and the OBJECT"
    private static void theLogTellsClassAndObject() {
        Draft d = new Draft();
        d.chain(8, 0, 0);
        d.logger(0, 0);
        int calls = d.call(0, d.number(70));
        d.makerActs(7, 1, d.number(77));
        d.makerActs(7, 2, calls);
        for (int i = 0; i < 100; i++) {
            CHECK.due("make", d.make(7), i);
        }
        for (int i = 0; i < 200; i += 2) {
            if (i < 4 || i >= 196) {
                CHECK.due("a number of a MAKER", d.x.logged(i), 77);
                CHECK.due("its CLASS", d.x.logOf(i, 0), 7);
                CHECK.due("its OBJECT", d.x.logOf(i, 1), i / 2);
                CHECK.due("a number of the METHOD", d.x.logged(i + 1), 70);
                CHECK.due("its CLASS", d.x.logOf(i + 1, 0), 0);
                CHECK.due("its OBJECT", d.x.logOf(i + 1, 1), i / 2);
            }
        }
    }

    // Promises 16 and 17: "0: none such", "NONE: none such"
    private static void numbersOfTheLog() {
        Draft d = logger();
        long[] numbers = {Long.MIN_VALUE, -1, 0, Long.MAX_VALUE};
        for (long number : numbers) {
            d.x.call(0, 0, number);
        }
        for (int i = 0; i < 4; i++) {
            CHECK.due("logged(" + i + ")", d.x.logged(i), numbers[i]);
        }
        int[] wrong = {MIN, -1, 4, 199, 200, MAX};
        for (int i : wrong) {
            CHECK.due("logged(" + i + ")", d.x.logged(i), 0);
            CHECK.due("logOf(" + i + ", 0)", d.x.logOf(i, 0), NONE);
            CHECK.due("logOf(" + i + ", 1)", d.x.logOf(i, 1), NONE);
            CHECK.due("logOf(" + i + ", 2)", d.x.logOf(i, 2), NONE);
        }
        int[] whats = {MIN, -1, 2, MAX};
        for (int what : whats) {
            CHECK.due("logOf(3, " + what + ")", d.x.logOf(3, what), NONE);
        }
    }

    // Promise 18: "of the latest make(), call() that was not refused"
    private static void countsOfTheLatest() {
        Draft d = new Draft();
        d.chain(2, 0, 1);
        int zero = d.number(0);
        int tried = d.tried(d.failing(3), zero);
        d.x.begins(1, 0, tried);
        d.x.method(0, 0, false, d.call(1, zero));
        d.x.method(0, 1, false, zero);
        d.x.method(0, 2, false, d.plus(tried, d.failing(2)));
        d.make(1);
        int exps = d.x.count(0);
        CHECK.counts("make", d.x, exps, 2, 1, 0, 5, 2, 2, 1);
        d.x.call(0, 0, 0);
        CHECK.counts("call", d.x, exps, 2, 1, 0, 3, 2, 2, 0);
        CHECK.due("make that is refused", d.make(2), UNKNOWN);
        CHECK.due("call that is refused", d.x.call(1, 0, 0), UNKNOWN);
        CHECK.due("another one", d.x.call(0, 4, 0), OUTSIDE);
        CHECK.counts("refused ones", d.x, exps, 2, 1, 0, 3, 2, 2, 0);
        CHECK.due("call that FAILS", d.x.call(0, 2, 0), -12);
        CHECK.counts("call that FAILS", d.x, exps, 2, 1, 0, 7, 1, 1, 1);
        d.number(1);
        d.x.type(NONE, 0, 0);
        d.x.clear();
        CHECK.counts("what is no make and no call", d.x, exps + 1, 3, 1, 0, 7, 1, 1, 1);
        d.make(2);
        CHECK.counts("a make that has nothing to do", d.x, exps + 1, 3, 2, 0, 0, 1, 1, 0);
    }

    /** A call() of nothing FAILS, it is not refused: it began nothing. */
    private static void countsOfACallOfNothing() {
        Draft d = logger();
        d.x.call(0, 1, 0);
        CHECK.due("call of nothing", d.x.call(0, 3, 0), -11);
        CHECK.counts("call of nothing", d.x, 1, 1, 1, 8, 0, 0, 0, 0);
    }

    // "An object is used for at most 512 calls after it has been made"
    private static void fiveHundredAndTwelveCalls() {
        Draft d = oneClass();
        int spent = d.many(301);
        int many = d.many(300);
        d.x.method(0, 0, false, spent);
        d.x.method(0, 1, false, many);
        d.make(0);
        // The EXPS and this question, two METHODS, the CLASS, the OBJECT.
        int used = d.x.count(0) + 1 + 2 + 1 + 1;
        for (; used + 4 <= 511; used += 4) {
            CHECK.due("call that is SPENT", d.x.call(0, 0, 0), -18);
            CHECK.due("its EXPS", d.x.count(4), 300);
            CHECK.due("call", d.x.call(0, 1, 0), 0);
            CHECK.due("its EXPS", d.x.count(4), 300);
        }
        for (; used < 511; used++) {
            CHECK.due("OBJECTS", d.x.count(2), 1);
        }
        CHECK.due("the 512th call", d.x.told(0, 1), 1);
    }
}
