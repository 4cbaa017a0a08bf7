/** The boundary cases of CLASSES and of MAKING: how much a CLASS holds, who comes when, and what is left. */
public final class MakingBoundsTest {
    private static final Check CHECK = new Check();
    private static final int NONE = -1, UNKNOWN = -2, OUTSIDE = -3, ROOM = -5;
    private static final int SPENT = 8;

    public static void main(String[] args) {
        eightClasses();
        theParentIsEarlier();
        capturesOfAClass();
        fieldsOfAClass();
        fieldsStandBesideThoseOfTheParent();
        passedIsZeroAtFirst();
        fieldsBeginWithNoneAtFirst();
        eightActsOfTheMaker();
        eightActsOfEachMethod();
        aMethodInPlaceHasNoActs();
        namesOfMethods();
        aMethodWithoutResult();
        sortsOfActs();
        numberedAsItBegins();
        allIsZeroAtFirst();
        capturesStandFirst();
        capturesOfTheParent();
        capturesThatAreCutStayCut();
        orderOfTheMaker();
        anOverriddenMethodSeesNoFieldYet();
        fieldsAreBegunInOrder();
        brokenAtEachStage();
        whatWasDoneStays();
        brokenWithinBroken();
        aFailureOfACallBreaksNoObject();
        CHECK.end();
    }

    // "CLASSES (8), numbered from 0"
    private static void eightClasses() {
        Draft d = new Draft();
        for (int c = 0; c < 8; c++) {
            CHECK.due("CLASS " + c, d.x.type(NONE, 0, 0), c);
        }
        CHECK.due("a ninth CLASS", d.x.type(NONE, 0, 0), ROOM);
        CHECK.due("a ninth CLASS below another", d.x.type(7, 0, 0), ROOM);
        CHECK.due("eight are there", d.x.count(1), 8);
        CHECK.due("the eighth is made", d.make(7), 0);
        CHECK.due("its CLASS", d.x.told(0, 0), 7);
        CHECK.due("a ninth is not", d.make(8), UNKNOWN);
    }

    // "a PARENT (an earlier CLASS) or none"
    private static void theParentIsEarlier() {
        Draft d = new Draft();
        for (int c = 0; c < 8; c++) {
            CHECK.due("the PARENT is itself", d.x.type(c, 0, 0), UNKNOWN);
            CHECK.due("the PARENT is the latest", d.x.type(c - 1, 0, 0), c);
        }
        CHECK.due("the last is below the first", d.x.below(7, 0), 1);
    }

    // "0 to 3 CAPTURES"
    private static void capturesOfAClass() {
        int[] wrong = {Integer.MIN_VALUE, -1, 4, 5, Integer.MAX_VALUE};
        Draft d = new Draft();
        for (int captures : wrong) {
            CHECK.due("a CLASS with " + captures + " CAPTURES", d.x.type(NONE, captures, 0), OUTSIDE);
        }
        for (int captures = 0; captures <= 3; captures++) {
            CHECK.due("a CLASS with " + captures + " CAPTURES", d.x.type(NONE, captures, 0), captures);
            d.x.make(captures, 9, 31, 32, 33);
            for (int k = -1; k <= 4; k++) {
                boolean has = k >= 0 && k < captures;
                CHECK.due("CAPTURE " + k + " of " + captures, d.x.capture(captures, captures, k), has ? 31 + k : 0);
            }
        }
    }

    // "0 to 4 FIELDS"
    private static void fieldsOfAClass() {
        int[] wrong = {Integer.MIN_VALUE, -1, 5, 6, Integer.MAX_VALUE};
        Draft d = new Draft();
        int given = d.given();
        for (int fields : wrong) {
            CHECK.due("a CLASS with " + fields + " FIELDS", d.x.type(NONE, 0, fields), OUTSIDE);
        }
        for (int fields = 0; fields <= 4; fields++) {
            CHECK.due("a CLASS with " + fields + " FIELDS", d.x.type(NONE, 0, fields), fields);
            for (int k = -1; k <= 5; k++) {
                boolean has = k >= 0 && k < fields;
                CHECK.due("FIELD " + k + " of " + fields + " begins", d.x.begins(fields, k, given), has ? 1 : OUTSIDE);
            }
        }
        for (int fields = 0; fields <= 4; fields++) {
            d.x.make(fields, 70 + fields, 0, 0, 0);
            for (int k = -1; k <= 5; k++) {
                boolean has = k >= 0 && k < fields;
                CHECK.due("FIELD " + k + " of " + fields, d.x.field(fields, fields, k), has ? 70 + fields : 0);
            }
        }
    }

    // "(of its own, beside those of its PARENT, and so on)": eight CLASSES, all as large as they may be
    private static void fieldsStandBesideThoseOfTheParent() {
        Draft d = new Draft();
        d.chain(8, 3, 4);
        for (int c = 0; c < 8; c++) {
            for (int k = 0; k < 4; k++) {
                d.x.begins(c, k, d.number(10 * c + k + 1));
            }
        }
        CHECK.due("make", d.x.make(7, 0, 91, 92, 93), 0);
        for (int c = 0; c < 8; c++) {
            for (int k = 0; k < 4; k++) {
                CHECK.due("FIELD " + k + " of " + c, d.x.field(0, c, k), 10 * c + k + 1);
            }
            for (int k = 0; k < 3; k++) {
                CHECK.due("CAPTURE " + k + " of " + c, d.x.capture(0, c, k), 91 + k);
            }
        }
        CHECK.counts("eight", d.x, 32, 8, 1, 0, 32, 8, 8, 0);
    }

    // "PASSED, the EXP that its PARENT is GIVEN (0 at first)"
    private static void passedIsZeroAtFirst() {
        Draft d = new Draft();
        d.chain(3, 0, 1);
        int seven = d.number(7);
        int given = d.given();
        for (int c = 0; c < 3; c++) {
            d.x.begins(c, 0, given);
        }
        d.x.passed(1, seven);
        d.x.make(2, 4, 0, 0, 0);
        CHECK.due("GIVEN of the CLASS", d.x.field(0, 2, 0), 4);
        CHECK.due("GIVEN of its PARENT is 0", d.x.field(0, 1, 0), 0);
        CHECK.due("GIVEN of the one above is PASSED", d.x.field(0, 0, 0), 7);
        CHECK.due("three FIELDS and one PASSED were begun", d.x.count(4), 4);
    }

    // "for each FIELD an EXP that it begins with (none at first)"
    private static void fieldsBeginWithNoneAtFirst() {
        Draft d = new Draft();
        d.x.type(NONE, 0, 4);
        d.number(7);
        d.x.begins(0, 2, 0);
        d.make(0);
        for (int k = 0; k < 4; k++) {
            CHECK.due("FIELD " + k, d.x.field(0, 0, k), k == 2 ? 7 : 0);
        }
        CHECK.due("one EXP was begun", d.x.count(4), 1);
    }

    // "ACTS of its MAKER (8 at most)"
    private static void eightActsOfTheMaker() {
        Draft d = new Draft();
        d.chain(2, 0, 0);
        for (int i = 1; i <= 8; i++) {
            CHECK.due("ACT " + i, d.x.act(0, NONE, 1, 0, d.number(i)), i);
        }
        CHECK.due("a ninth ACT", d.x.act(0, NONE, 1, 0, 0), ROOM);
        CHECK.due("the first of another CLASS", d.x.act(1, NONE, 1, 0, 0), 1);
        d.make(0);
        CHECK.log("eight in order", d.x, 1, 0, 0, 2, 0, 0, 3, 0, 0, 4, 0, 0, 5, 0, 0, 6, 0, 0, 7, 0, 0, 8, 0, 0);
    }

    // "for each NAME 0 to 3 perhaps a METHOD: ... ACTS (8 at most)"
    private static void eightActsOfEachMethod() {
        Draft d = new Draft();
        d.x.type(NONE, 0, 0);
        int given = d.given();
        for (int name = 0; name <= 3; name++) {
            d.x.method(0, name, false, NONE);
            for (int i = 1; i <= 8; i++) {
                CHECK.due("ACT " + i + " of METHOD " + name, d.x.act(0, name, 1, 0, given), i);
            }
            CHECK.due("a ninth ACT of METHOD " + name, d.x.act(0, name, 1, 0, given), ROOM);
        }
        CHECK.due("the MAKER has room of its own", d.x.act(0, NONE, 2, 0, given), 1);
        d.make(0);
        for (int name = 0; name <= 3; name++) {
            CHECK.due("call of METHOD " + name, d.x.call(0, name, name), 0);
            CHECK.due("eight were worked", d.x.count(4), 8);
            CHECK.due("eight were LOGGED", d.x.count(3), 8 * name + 8);
        }
    }

    // "A METHOD of a NAME, in place of what was there, without ACTS"
    private static void aMethodInPlaceHasNoActs() {
        Draft d = new Draft();
        d.x.type(NONE, 0, 0);
        int given = d.given();
        d.x.method(0, 0, false, NONE);
        for (int i = 1; i <= 8; i++) {
            d.x.act(0, 0, 1, 0, given);
        }
        CHECK.due("another in place", d.x.method(0, 0, false, given), 1);
        CHECK.due("its first ACT", d.x.act(0, 0, 1, 0, given), 1);
        d.make(0);
        CHECK.due("call", d.x.call(0, 0, 6), 0);
        CHECK.due("the RESULT in place", d.x.result(), 6);
        CHECK.due("one was LOGGED", d.x.count(3), 1);
    }

    // "for each NAME 0 to 3"
    private static void namesOfMethods() {
        int[] wrong = {Integer.MIN_VALUE, -2, -1, 4, 5, Integer.MAX_VALUE};
        Draft d = new Draft();
        d.x.type(NONE, 0, 0);
        for (int name : wrong) {
            CHECK.due("a METHOD of NAME " + name, d.x.method(0, name, false, NONE), OUTSIDE);
        }
        for (int name = 0; name <= 3; name++) {
            CHECK.due("a METHOD of NAME " + name, d.x.method(0, name, false, d.number(80 + name)), 1);
        }
        d.make(0);
        for (int name = 0; name <= 3; name++) {
            CHECK.due("call of " + name, d.x.call(0, name, 0), 0);
            CHECK.due("its RESULT", d.x.result(), 80 + name);
        }
    }

    // "Its ACTS, then its RESULT (0 without)"
    private static void aMethodWithoutResult() {
        Draft d = new Draft();
        d.x.type(NONE, 0, 1);
        int given = d.given();
        d.x.method(0, 0, false, NONE);
        d.x.act(0, 0, 0, 0, given);
        d.x.method(0, 1, false, d.plus(d.call(0, given), d.number(3)));
        d.x.method(0, 2, false, d.field(0));
        d.x.act(0, 2, 0, 0, given);
        d.make(0);
        CHECK.due("the ACTS come ahead of the RESULT", d.x.call(0, 2, 11), 0);
        CHECK.due("which sees them", d.x.result(), 11);
        CHECK.due("without a RESULT", d.x.call(0, 0, 12), 0);
        CHECK.due("it comes to 0", d.x.result(), 0);
        CHECK.due("its ACT was worked", d.x.field(0, 0, 0), 12);
        CHECK.due("the ACT's EXP alone was begun", d.x.count(4), 1);
        CHECK.due("within a CALL", d.x.call(0, 1, 13), 0);
        CHECK.due("it is 0 too", d.x.result(), 3);
    }

    // "ACTS: 0 FIELD n becomes what an EXP comes to; 1 that is LOGGED; 2 it is worked"
    private static void sortsOfActs() {
        for (int sort = 0; sort <= 2; sort++) {
            for (int n = 0; n <= 3; n++) {
                Draft d = new Draft();
                d.x.type(NONE, 0, 4);
                d.x.act(0, NONE, sort, n, d.number(5));
                d.make(0);
                for (int k = 0; k < 4; k++) {
                    CHECK.due("ACT " + sort + ": FIELD " + k, d.x.field(0, 0, k), sort == 0 && k == n ? 5 : 0);
                }
                CHECK.due("ACT " + sort + ": the LOG", d.x.count(3), sort == 1 ? 1 : 0);
                CHECK.due("ACT " + sort + ": the number", d.x.logged(0), sort == 1 ? 5 : 0);
                CHECK.due("ACT " + sort + ": its EXP is worked", d.x.count(4), 1);
            }
        }
    }

    // "it is numbered as this begins"
    private static void numberedAsItBegins() {
        Draft d = new Draft();
        d.x.type(NONE, 0, 1);
        d.x.type(NONE, 0, 1);
        int one = d.number(1);
        d.x.begins(1, 0, d.made(0, one, one));
        d.makerActs(0, 1, one);
        d.makerActs(1, 1, one);
        CHECK.due("the outer one", d.make(1), 0);
        CHECK.due("CLASS of the first", d.x.told(0, 0), 1);
        CHECK.due("CLASS of the second", d.x.told(1, 0), 0);
        CHECK.log("the inner one is done first", d.x, 1, 0, 1, 1, 1, 0);
        CHECK.due("the next", d.make(0), 2);
    }

    // "all is 0"
    private static void allIsZeroAtFirst() {
        Draft d = new Draft();
        d.chain(2, 1, 2);
        int first = d.field(0);
        int second = d.field(1);
        d.logger(0, 3);
        d.x.method(0, 0, false, d.call(3, d.capture(0)));
        d.x.act(0, 0, 1, 0, first);
        d.x.passed(1, d.plus(d.call(3, first), d.call(0, first)));
        d.x.begins(1, 0, d.call(3, second));
        d.x.begins(1, 1, d.number(9));
        d.x.make(1, 4, 5, 6, 7);
        CHECK.log("FIELDS ahead of the PARENT's MAKER, its FIELD and CAPTURE, a FIELD ahead of its EXP", d.x,
            0, 0, 0, 0, 0, 0, 0, 0, 0, 0, 0, 0);
        CHECK.due("the FIELD behind", d.x.field(0, 1, 1), 9);
    }

    // "its CAPTURES are set; if it has a PARENT, PASSED is worked"
    private static void capturesStandFirst() {
        Draft d = new Draft();
        d.chain(2, 3, 1);
        d.x.passed(1, d.plus(d.capture(0), d.plus(d.capture(1), d.capture(2))));
        d.x.begins(0, 0, d.given());
        d.x.make(1, 0, 100, 20, 3);
        CHECK.due("PASSED sees what was captured", d.x.field(0, 0, 0), 123);
    }

    // "its CAPTURES being those of the CLASS by their numbers (0 where this has fewer)"
    private static void capturesOfTheParent() {
        for (int own = 0; own <= 3; own++) {
            for (int above = 0; above <= 3; above++) {
                Draft d = new Draft();
                d.x.type(NONE, above, 0);
                d.x.type(0, own, 0);
                d.x.make(1, 5, 31, 32, 33);
                for (int k = 0; k < 3; k++) {
                    String of = " of " + own + " below " + above;
                    CHECK.due("CAPTURE " + k + of, d.x.capture(0, 1, k), k < own ? 31 + k : 0);
                    CHECK.due("the PARENT's " + k + of, d.x.capture(0, 0, k), k < own && k < above ? 31 + k : 0);
                }
            }
        }
    }

    private static void capturesThatAreCutStayCut() {
        Draft d = new Draft();
        d.x.type(NONE, 3, 1);
        d.x.type(0, 1, 0);
        d.x.type(1, 3, 0);
        d.x.begins(0, 0, d.capture(1));
        CHECK.due("a CAPTURE that is 0 is there all the same", d.x.make(2, 5, 31, 32, 33), 0);
        long[] want = {31, 0, 0};
        for (int k = 0; k < 3; k++) {
            CHECK.due("CAPTURE " + k + " above one that has fewer", d.x.capture(0, 0, k), want[k]);
        }
    }

    // "THE MAKER of the CLASS": CAPTURES, PASSED, the PARENT's MAKER, FIELDS, ACTS; at three levels
    private static void orderOfTheMaker() {
        Draft d = new Draft();
        d.chain(3, 0, 1);
        d.logger(0, 0);
        for (int c = 2; c >= 0; c--) {
            d.x.act(c, NONE, 2, 0, d.logging(0, 10 * c + 3));
            d.x.begins(c, 0, d.logging(0, 10 * c + 2));
            d.x.passed(c, d.logging(0, 10 * c + 1));
        }
        CHECK.due("make", d.make(2), 0);
        long[] due = {21, 11, 2, 3, 12, 13, 22, 23};
        CHECK.due("numbers", d.x.count(3), due.length);
        for (int i = 0; i < due.length; i++) {
            CHECK.due("number " + i, d.x.logged(i), due[i]);
        }
    }

    private static void anOverriddenMethodSeesNoFieldYet() {
        Draft d = new Draft();
        d.chain(2, 1, 1);
        int nine = d.number(9);
        int calls = d.call(0, nine);
        d.x.begins(1, 0, nine);
        d.x.method(0, 0, false, d.number(1000));
        d.x.method(1, 0, false, d.plus(d.capture(0), d.field(0)));
        d.makerActs(0, 1, calls);
        d.makerActs(1, 1, calls);
        d.x.make(1, 0, 50, 0, 0);
        CHECK.log("CAPTURE alone, then with the FIELD", d.x, 50, 0, 0, 59, 1, 0);
    }

    // "then each FIELD that has one gets what its EXP comes to, in order"
    private static void fieldsAreBegunInOrder() {
        Draft d = new Draft();
        d.x.type(NONE, 0, 4);
        int one = d.number(1);
        // Told from the last to the first; each sees the ones ahead of it, and none behind.
        d.x.begins(0, 3, d.plus(d.field(2), one));
        d.x.begins(0, 2, d.plus(d.field(0), one));
        d.x.begins(0, 0, d.plus(d.field(3), one));
        d.make(0);
        long[] want = {1, 0, 2, 3};
        for (int k = 0; k < 4; k++) {
            CHECK.due("FIELD " + k, d.x.field(0, 0, k), want[k]);
        }
    }

    /**
     * A MAKER of CLASS 1 below CLASS 0, with one EXP that FAILS: 0 PASSED, 1 and 2 FIELDS of CLASS 0, 3 and 4 its
     * ACTS, 5 and 6 FIELDS of CLASS 1, 7 and 8 its ACTS; 9: none does.
     */
    private static Draft failingAt(int stage, int kind) {
        Draft d = new Draft();
        d.chain(2, 1, 4);
        int fails = d.failing(kind);
        int well = d.number(5);
        int[] exps = new int[9];
        for (int i = 0; i < 9; i++) {
            exps[i] = i == stage ? fails : well;
        }
        d.x.passed(1, exps[0]);
        for (int c = 0; c < 2; c++) {
            d.x.begins(c, 0, exps[4 * c + 1]);
            d.x.begins(c, 1, exps[4 * c + 2]);
            d.x.act(c, NONE, 1, 0, exps[4 * c + 3]);
            d.x.act(c, NONE, 0, 2, exps[4 * c + 4]);
        }
        return d;
    }

    // "The OBJECT is MADE then; BROKEN, when it FAILS (what it has stays, and what was done)"
    private static void brokenAtEachStage() {
        int[] kinds = {1, 2, 3, SPENT};
        for (int kind : kinds) {
            for (int stage = 0; stage <= 9; stage++) {
                Draft d = failingAt(stage, kind);
                String when = "FAILURE " + kind + " at " + stage;
                CHECK.due(when, d.x.make(1, 0, 6, 0, 0), stage == 9 ? 0 : -10 - kind);
                CHECK.due(when + ": told", d.x.told(0, 1), stage == 9 ? 1 : 2);
                CHECK.due(when + ": its CLASS", d.x.told(0, 0), 1);
                CHECK.due(when + ": the CAPTURE", d.x.capture(0, 1, 0), 6);
                CHECK.due(when + ": the PARENT's", d.x.capture(0, 0, 0), stage > 0 ? 6 : 0);
                for (int c = 0; c < 2; c++) {
                    CHECK.due(when + ": FIELD 0", d.x.field(0, c, 0), stage > 4 * c + 1 ? 5 : 0);
                    CHECK.due(when + ": FIELD 1", d.x.field(0, c, 1), stage > 4 * c + 2 ? 5 : 0);
                    CHECK.due(when + ": FIELD 2", d.x.field(0, c, 2), stage > 4 * c + 4 ? 5 : 0);
                    CHECK.due(when + ": the LOG", d.x.logged(c), stage > 4 * c + 3 ? 5 : 0);
                }
                CHECK.due(when + ": MAKERS begun", d.x.count(5), stage == 0 ? 1 : 2);
                CHECK.due(when + ": MAKERS ended", d.x.count(6), stage == 0 ? 1 : 2);
                CHECK.due(when + ": OBJECTS", d.x.count(2), 1);
                d.make(0);
                CHECK.due(when + ": the next is numbered behind it", d.x.told(1, 0), 0);
            }
        }
    }

    private static void whatWasDoneStays() {
        Draft d = new Draft();
        d.x.type(NONE, 0, 1);
        d.x.type(NONE, 0, 2);
        int five = d.number(5);
        d.x.begins(0, 0, five);
        d.x.begins(1, 0, d.made(0, five, five));
        d.makerActs(1, 1, five);
        d.makerActs(1, 2, d.failing(3));
        CHECK.due("make", d.make(1), -13);
        CHECK.due("the OBJECT made within stays MADE", d.x.told(1, 1), 1);
        CHECK.due("with its FIELD", d.x.field(1, 0, 0), 5);
        CHECK.due("the FIELD that was set of it stays", d.x.field(0, 1, 0), 5);
        CHECK.due("what was LOGGED stays", d.x.logged(0), 5);
        CHECK.due("both are counted", d.x.count(2), 2);
    }

    private static void brokenWithinBroken() {
        Draft d = new Draft();
        d.x.type(NONE, 0, 1);
        d.x.type(NONE, 0, 1);
        int five = d.number(5);
        int made = d.made(0, five, five);
        d.x.begins(0, 0, d.failing(3));
        d.x.begins(1, 0, made);
        CHECK.due("make", d.make(1), -13);
        CHECK.due("the inner one is BROKEN", d.x.told(1, 1), 2);
        CHECK.due("the outer one is BROKEN", d.x.told(0, 1), 2);
        Draft e = new Draft();
        e.x.type(NONE, 0, 1);
        e.x.type(NONE, 0, 1);
        int six = e.number(6);
        e.x.begins(0, 0, e.failing(3));
        e.x.begins(1, 0, e.tried(e.made(0, six, six), six));
        CHECK.due("make, where a TRY takes it", e.make(1), 0);
        CHECK.due("the inner one is BROKEN", e.x.told(1, 1), 2);
        CHECK.due("the outer one is MADE", e.x.told(0, 1), 1);
        CHECK.due("its FIELD", e.x.field(0, 1, 0), 6);
    }

    private static void aFailureOfACallBreaksNoObject() {
        int[] kinds = {1, 2, 3, SPENT};
        for (int kind : kinds) {
            Draft d = new Draft();
            d.x.type(NONE, 0, 1);
            int given = d.given();
            d.x.method(0, 0, false, d.failing(kind));
            d.x.act(0, 0, 0, 0, given);
            d.x.method(0, 1, false, d.field(0));
            d.make(0);
            CHECK.due("call", d.x.call(0, 0, 8), -10 - kind);
            CHECK.due("it stays MADE", d.x.told(0, 1), 1);
            CHECK.due("what was set stays", d.x.field(0, 0, 0), 8);
            CHECK.due("it can be called again", d.x.call(0, 1, 0), 0);
            CHECK.due("and has it still", d.x.result(), 8);
        }
    }
}
