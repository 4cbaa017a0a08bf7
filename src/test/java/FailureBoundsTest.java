/** The boundary cases of FAILURES: each of 1, 2, 3, each of 8's bounds from both sides, and what a TRY takes. */
public final class FailureBoundsTest {
    private static final Check CHECK = new Check();
    private static final int NONE = -1, ROOM = -5;
    private static final int NOTHING = -11, INDEX = -12, ZERO = -13, SPENT = -18;

    public static void main(String[] args) {
        nothingWithoutAParent();
        nothingIsAskedBehindThePart();
        indexBehindTheExpOfAnAct();
        expsOfACall();
        expsOfAMake();
        expsOfThePlanAreBegunAnew();
        expsOfOneCallAlone();
        methodsUnderWay();
        makersUnderWay();
        makersOfParentsAreUnderWay();
        makersThatEndedAreNotUnderWay();
        methodsThatEndedAreNotUnderWay();
        aMethodThatIsNotThereIsNoThirteenth();
        theThirteenthMakerIsNumbered();
        theThirteenthMakerOfAParent();
        objectsWithinACall();
        objectsWithinAMake();
        partsAheadOfTheObject();
        theObjectAheadOfTheThirteenthMaker();
        failuresOfACall();
        failuresOfAMake();
        theFifthGoesUpAsSpent();
        theFourthGoesUpAsItIs();
        failuresOfOneCallAlone();
        oneFailureThatGoesFarIsOne();
        aTryTakesOneTwoThree();
        aTryTakesNoSpent();
        aTryTakesWhatComesFromFarBelow();
        theNearestTryTakes();
        bOfATryIsNotTried();
        CHECK.end();
    }

    private static Draft oneClass() {
        Draft d = new Draft();
        d.x.type(NONE, 0, 1);
        return d;
    }

    // "1 NOTHING (no such METHOD, no PARENT ...)"
    private static void nothingWithoutAParent() {
        Draft d = oneClass();
        d.x.method(0, 0, false, d.number(1));
        d.x.method(0, 1, false, d.parentCall(0, d.number(0)));
        d.make(0);
        CHECK.due("8 in a CLASS without a PARENT, that has the METHOD itself", d.x.call(0, 1, 0), NOTHING);
        Draft e = new Draft();
        e.chain(2, 0, 0);
        e.x.method(1, 0, false, e.parentCall(0, e.number(0)));
        e.make(1);
        CHECK.due("8 where the PARENT has no such METHOD", e.x.call(0, 0, 0), NOTHING);
        CHECK.due("from without", e.x.call(0, 1, 0), NOTHING);
    }

    // "asked behind the part"
    private static void nothingIsAskedBehindThePart() {
        for (int sort = 7; sort <= 8; sort++) {
            Draft d = oneClass();
            d.logger(0, 0);
            d.x.method(0, 1, false, d.x.exp(sort, 3, d.logging(0, 5), 0));
            d.x.method(0, 2, false, d.x.exp(sort, 3, d.failing(3), 0));
            d.make(0);
            CHECK.due("sort " + sort, d.x.call(0, 1, 0), NOTHING);
            CHECK.log("its part was worked", d.x, 5, 0, 0);
            CHECK.due("sort " + sort + " whose part FAILS", d.x.call(0, 2, 0), ZERO);
        }
    }

    // "Of ACT 0 the EXP is worked ahead of INDEX"
    private static void indexBehindTheExpOfAnAct() {
        Draft d = oneClass();
        d.logger(0, 0);
        d.x.method(0, 1, false, NONE);
        d.x.act(0, 1, 0, 1, d.logging(0, 5));
        d.x.method(0, 2, false, NONE);
        d.x.act(0, 2, 0, 1, d.failing(3));
        d.make(0);
        CHECK.due("ACT 0 on a FIELD that is not there", d.x.call(0, 1, 0), INDEX);
        CHECK.log("its EXP was worked", d.x, 5, 0, 0);
        CHECK.due("one FAILURE, of the EXP", d.x.call(0, 2, 0), ZERO);
    }

    // "the 301st EXP that is begun in a call of ... call()"
    private static void expsOfACall() {
        for (int exps = 299; exps <= 302; exps++) {
            Draft d = oneClass();
            d.x.method(0, 0, false, d.many(exps));
            d.make(0);
            CHECK.due(exps + " EXPS in a call", d.x.call(0, 0, 0), exps <= 300 ? 0 : SPENT);
            CHECK.due("EXPS begun", d.x.count(4), Math.min(exps, 300));
            CHECK.due("METHODS ended", d.x.count(6), 1);
        }
    }

    // "the 301st EXP that is begun in a call of make()": as PASSED, as a FIELD begins, as an ACT
    private static void expsOfAMake() {
        for (int where = 0; where < 3; where++) {
            for (int exps = 300; exps <= 301; exps++) {
                Draft d = new Draft();
                d.chain(2, 0, 1);
                int many = d.many(exps);
                if (where == 0) {
                    d.x.passed(1, many);
                } else if (where == 1) {
                    d.x.begins(0, 0, many);
                } else {
                    d.makerActs(1, 2, many);
                }
                CHECK.due(exps + " EXPS in a make", d.make(1), exps == 300 ? 0 : SPENT);
                CHECK.due("EXPS begun", d.x.count(4), 300);
                CHECK.due("MADE or BROKEN", d.x.told(0, 1), exps == 300 ? 1 : 2);
            }
        }
    }

    /** One EXP that is worked again and again is begun as often. */
    private static void expsOfThePlanAreBegunAnew() {
        for (int ones = 7; ones <= 8; ones++) {
            Draft d = oneClass();
            int one = d.number(1);
            int many = d.many(293);
            d.x.method(0, 0, false, many);
            for (int i = 0; i < ones; i++) {
                d.x.act(0, 0, 1, 0, one);
            }
            d.make(0);
            CHECK.due("293 EXPS and one " + ones + " times", d.x.call(0, 0, 0), ones == 7 ? 0 : SPENT);
            CHECK.due("the ACTS were done", d.x.count(3), ones);
        }
    }

    /** Every make() and call() begins with none, behind one that was SPENT too. */
    private static void expsOfOneCallAlone() {
        Draft d = oneClass();
        d.x.method(0, 0, false, d.many(300));
        d.x.method(0, 1, false, d.many(301));
        d.x.begins(0, 0, d.many(150));
        for (int i = 0; i < 3; i++) {
            CHECK.due("make", d.make(0), i);
            CHECK.due("its EXPS", d.x.count(4), 150);
            CHECK.due("call of 300", d.x.call(0, 0, 0), 0);
            CHECK.due("call of 301", d.x.call(0, 1, 0), SPENT);
        }
    }

    /** CLASSES in a chain; METHOD 0 of each calls that of its PARENT, the last one METHOD 1 of the first so many. */
    private static Draft methods(int first, int second) {
        Draft d = new Draft();
        d.chain(first, 0, 0);
        int one = d.number(1);
        int up = d.parentCall(0, one);
        int upAgain = d.parentCall(1, one);
        int turn = d.call(1, one);
        for (int c = 0; c < first; c++) {
            d.x.method(c, 0, false, c == 0 ? turn : up);
        }
        for (int c = 0; c < second; c++) {
            d.x.method(c, 1, false, c == 0 ? one : upAgain);
        }
        return d;
    }

    // "the 13th ... METHOD under way"
    private static void methodsUnderWay() {
        for (int all = 11; all <= 14; all++) {
            Draft d = methods(7, all - 7);
            d.make(6);
            CHECK.due(all + " METHODS within one another", d.x.call(0, 0, 0), all <= 12 ? 0 : SPENT);
            CHECK.due("METHODS begun", d.x.count(5), Math.min(all, 12));
            CHECK.due("METHODS ended", d.x.count(6), Math.min(all, 12));
            CHECK.due("a next call has all twelve again", d.x.call(0, 1, 0), 0);
        }
    }

    /** A MAKER that makes another OBJECT, GIVEN one less, until the division by GIVEN FAILS. */
    private static Draft countdown() {
        Draft d = new Draft();
        d.x.type(NONE, 1, 1);
        int one = d.number(1);
        int given = d.given();
        int inner = d.made(0, d.minus(given, one), one);
        d.x.begins(0, 0, d.tried(d.plus(d.over(one, given), inner), one));
        return d;
    }

    // "the 13th MAKER ... under way"
    private static void makersUnderWay() {
        for (int all = 11; all <= 14; all++) {
            Draft d = countdown();
            CHECK.due(all + " MAKERS within one another", d.x.make(0, all - 1, 0, 0, 0), all <= 12 ? 0 : SPENT);
            CHECK.due("MAKERS begun", d.x.count(5), Math.min(all, 12));
            CHECK.due("MAKERS ended", d.x.count(6), Math.min(all, 12));
            CHECK.due("OBJECTS", d.x.count(2), Math.min(all, 13));
            CHECK.due("FAILURES taken", d.x.count(7), all <= 12 ? 1 : 0);
            CHECK.due("a next make has all twelve again", d.x.make(0, 11, 0, 0, 0), Math.min(all, 13));
        }
    }

    // "(a MAKER is so until it ends, its PARENT's within it)"
    private static void makersOfParentsAreUnderWay() {
        for (int methods = 3; methods <= 6; methods++) {
            Draft d = new Draft();
            d.chain(8, 0, 0);
            int one = d.number(1);
            int up = d.parentCall(0, one);
            for (int c = 0; c < methods; c++) {
                d.x.method(c, 0, false, c == 0 ? one : up);
            }
            d.makerActs(0, 1, d.call(0, one));
            CHECK.due("eight MAKERS and " + methods + " METHODS", d.make(7), methods <= 4 ? 0 : SPENT);
            CHECK.due("begun", d.x.count(5), Math.min(8 + methods, 12));
            CHECK.due("ended", d.x.count(6), Math.min(8 + methods, 12));
            CHECK.due("what the METHODS came to is LOGGED", d.x.count(3), methods <= 4 ? 1 : 0);
        }
    }

    private static void makersThatEndedAreNotUnderWay() {
        for (int methods = 11; methods <= 12; methods++) {
            Draft d = methods(7, methods - 7);
            d.makerActs(6, 1, d.call(0, d.number(1)));
            CHECK.due("one MAKER, its PARENTS' ended, and " + methods + " METHODS", d.make(6), methods == 11 ? 0 : SPENT);
            CHECK.due("begun", d.x.count(5), 7 + 11);
            CHECK.due("ended", d.x.count(6), 7 + 11);
        }
    }

    private static void methodsThatEndedAreNotUnderWay() {
        Draft d = oneClass();
        int one = d.number(1);
        int calls = d.call(0, one);
        int four = d.plus(d.plus(calls, calls), d.plus(calls, calls));
        d.x.method(0, 0, false, one);
        d.x.method(0, 1, false, d.plus(d.plus(four, four), d.plus(four, four)));
        d.make(0);
        CHECK.due("seventeen METHODS, two at once", d.x.call(0, 1, 0), 0);
        CHECK.due("sixteen came to 1", d.x.result(), 16);
        CHECK.due("begun", d.x.count(5), 17);
    }

    private static void aMethodThatIsNotThereIsNoThirteenth() {
        Draft d = methods(7, 4);
        int zero = d.number(0);
        // METHOD 1 of CLASS 4 is the eighth METHOD, the five of CLASSES 4 to 0 end with the twelfth.
        d.x.method(4, 1, false, d.parentCall(1, zero));
        d.x.method(0, 1, false, d.call(3, zero));
        d.make(6);
        CHECK.due("a CALL of nothing in the twelfth METHOD", d.x.call(0, 0, 0), NOTHING);
        CHECK.due("twelve were begun", d.x.count(5), 12);
    }

    // "numbered ahead of the 13th MAKER (which sets nothing)"
    private static void theThirteenthMakerIsNumbered() {
        Draft d = countdown();
        CHECK.due("thirteen", d.x.make(0, 12, 5, 0, 0), SPENT);
        for (int object = 0; object < 13; object++) {
            CHECK.due("OBJECT " + object + " is BROKEN", d.x.told(object, 1), 2);
            CHECK.due("its CLASS", d.x.told(object, 0), 0);
            CHECK.due("its CAPTURE", d.x.capture(object, 0, 0), object == 0 ? 5 : object < 12 ? 1 : 0);
            CHECK.due("its FIELD", d.x.field(object, 0, 0), 0);
        }
        CHECK.due("there is no fourteenth", d.x.told(13, 1), -2);
    }

    private static void theThirteenthMakerOfAParent() {
        // Five METHODS within one another, then an OBJECT of the last of seven or eight CLASSES.
        for (int makers = 7; makers <= 8; makers++) {
            Draft d = new Draft();
            d.chain(8, 1, 1);
            int one = d.number(1);
            int up = d.parentCall(0, one);
            for (int c = 0; c < 5; c++) {
                d.x.method(c, 0, false, c == 0 ? d.made(makers - 1, one, one) : up);
            }
            for (int c = 0; c < 8; c++) {
                d.x.passed(c, one);
                d.x.begins(c, 0, one);
            }
            d.make(4);
            CHECK.due("five METHODS and " + makers + " MAKERS", d.x.call(0, 0, 0), makers == 7 ? 0 : SPENT);
            CHECK.due("MADE or BROKEN", d.x.told(1, 1), makers == 7 ? 1 : 2);
            CHECK.due("the last PARENT's CAPTURE", d.x.capture(1, 0, 0), makers == 7 ? 1 : 0);
            CHECK.due("the CAPTURE of the one below it", d.x.capture(1, 1, 0), 1);
            // The METHODS begin eleven EXPS; PASSED is worked ahead of each PARENT's MAKER, FIELDS behind all.
            CHECK.due("EXPS begun", d.x.count(4), makers == 7 ? 11 + 6 + 7 : 11 + 7);
            for (int c = 0; c < makers; c++) {
                CHECK.due("FIELD of " + c, d.x.field(1, c, 0), makers == 7 ? 1 : 0);
            }
        }
    }

    private static void makeUpTo(Draft d, int c, int objects) {
        for (int i = 0; i < objects; i++) {
            d.make(c);
        }
        CHECK.due("OBJECTS", d.x.count(2), objects);
    }

    // "the 101st OBJECT"
    private static void objectsWithinACall() {
        for (int before = 98; before <= 100; before++) {
            Draft d = oneClass();
            int one = d.number(1);
            d.x.begins(0, 0, one);
            d.x.method(0, 0, false, d.made(0, one, one));
            makeUpTo(d, 0, before);
            CHECK.due("one more than " + before, d.x.call(0, 0, 0), before < 100 ? 0 : SPENT);
            CHECK.due("OBJECTS", d.x.count(2), Math.min(before + 1, 100));
            CHECK.due("MAKERS and METHODS", d.x.count(5), before < 100 ? 2 : 1);
            CHECK.due("a call on the last", d.x.call(d.x.count(2) - 1, 0, 0), before < 99 ? 0 : SPENT);
        }
    }

    private static void objectsWithinAMake() {
        for (int before = 97; before <= 100; before++) {
            Draft d = oneClass();
            d.x.type(NONE, 0, 1);
            int one = d.number(1);
            d.x.begins(1, 0, d.made(0, one, one));
            makeUpTo(d, 0, before);
            int due = before == 100 ? ROOM : before == 99 ? SPENT : before;
            CHECK.due("two more than " + before, d.make(1), due);
            CHECK.due("OBJECTS", d.x.count(2), Math.min(before + 2, 100));
            if (before == 99) {
                CHECK.due("the hundredth is BROKEN", d.x.told(99, 1), 2);
                CHECK.due("its CLASS", d.x.told(99, 0), 1);
            }
        }
    }

    // "of 9 both parts ahead of the 101st OBJECT"
    private static void partsAheadOfTheObject() {
        Draft d = oneClass();
        d.logger(0, 0);
        int fails = d.failing(3);
        d.x.method(0, 1, false, d.made(0, d.logging(0, 1), d.logging(0, 2)));
        d.x.method(0, 2, false, d.made(0, fails, d.number(0)));
        d.x.method(0, 3, false, d.made(0, d.number(0), fails));
        makeUpTo(d, 0, 100);
        CHECK.due("the 101st", d.x.call(0, 1, 0), SPENT);
        CHECK.log("both parts were worked", d.x, 1, 0, 0, 2, 0, 0);
        CHECK.due("a FAILS ahead of it", d.x.call(0, 2, 0), ZERO);
        CHECK.due("b FAILS ahead of it", d.x.call(0, 3, 0), ZERO);
        CHECK.due("a hundred", d.x.count(2), 100);
    }

    /** The 101st OBJECT, whose MAKER would be the 13th: it is not numbered. */
    private static void theObjectAheadOfTheThirteenthMaker() {
        for (int before = 99; before <= 100; before++) {
            Draft d = methods(7, 4);
            int zero = d.number(0);
            d.x.method(4, 1, false, d.parentCall(1, zero));
            d.x.method(0, 1, false, d.made(0, zero, zero));
            makeUpTo(d, 6, before);
            CHECK.due("an OBJECT in the twelfth METHOD", d.x.call(0, 0, 0), SPENT);
            CHECK.due("OBJECTS", d.x.count(2), 100);
            CHECK.due("MADE or BROKEN", d.x.told(99, 1), before == 99 ? 2 : 1);
        }
    }

    /** A MAKER or METHOD with so many ACTS, each a TRY that takes a FAILURE; the kinds take turns. */
    private static Draft tries(int name, int tries) {
        Draft d = oneClass();
        int seven = d.number(7);
        int[] kinds = {d.failing(1), d.failing(2), d.failing(3)};
        if (name != NONE) {
            d.x.method(0, name, false, seven);
        }
        for (int i = 0; i < tries; i++) {
            d.x.act(0, name, 1, 0, d.tried(kinds[i % 3], seven));
        }
        return d;
    }

    // "the fifth FAILURE 1 to 3 of such a call (in place of that one)"
    private static void failuresOfACall() {
        for (int tries = 3; tries <= 6; tries++) {
            Draft d = tries(0, tries);
            d.make(0);
            CHECK.due(tries + " FAILURES in a call", d.x.call(0, 0, 0), tries <= 4 ? 0 : SPENT);
            CHECK.due("taken", d.x.count(7), Math.min(tries, 4));
            CHECK.due("TRIES that came to something", d.x.count(3), Math.min(tries, 4));
        }
    }

    private static void failuresOfAMake() {
        for (int tries = 3; tries <= 6; tries++) {
            Draft d = tries(NONE, tries);
            CHECK.due(tries + " FAILURES in a make", d.make(0), tries <= 4 ? 0 : SPENT);
            CHECK.due("taken", d.x.count(7), Math.min(tries, 4));
            CHECK.due("MADE or BROKEN", d.x.told(0, 1), tries <= 4 ? 1 : 2);
        }
    }

    /** Four that were taken, and a fifth of each kind that no TRY is around. */
    private static void theFifthGoesUpAsSpent() {
        for (int kind = 1; kind <= 3; kind++) {
            Draft d = tries(0, 4);
            d.x.act(0, 0, 2, 0, d.failing(kind));
            d.make(0);
            CHECK.due("a fifth FAILURE, of kind " + kind, d.x.call(0, 0, 0), SPENT);
            CHECK.due("taken", d.x.count(7), 4);
        }
        // An ACT on a FIELD that is not there is a FAILURE of the ACT, not of an EXP.
        Draft d = tries(0, 4);
        d.x.act(0, 0, 0, 1, 0);
        d.make(0);
        CHECK.due("a fifth FAILURE, of an ACT", d.x.call(0, 0, 0), SPENT);
    }

    private static void theFourthGoesUpAsItIs() {
        for (int kind = 1; kind <= 3; kind++) {
            Draft d = tries(0, 3);
            d.x.act(0, 0, 2, 0, d.failing(kind));
            d.make(0);
            CHECK.due("a fourth FAILURE, of kind " + kind, d.x.call(0, 0, 0), -10 - kind);
            CHECK.due("taken", d.x.count(7), 3);
        }
        Draft d = tries(0, 3);
        d.x.act(0, 0, 0, 1, 0);
        d.make(0);
        CHECK.due("a fourth FAILURE, of an ACT", d.x.call(0, 0, 0), INDEX);
    }

    private static void failuresOfOneCallAlone() {
        Draft d = tries(0, 4);
        d.x.method(0, 1, false, 0);
        for (int i = 0; i < 5; i++) {
            d.x.act(0, 1, 2, 0, d.tried(d.failing(2), 0));
        }
        d.make(0);
        for (int i = 0; i < 3; i++) {
            CHECK.due("four in each call", d.x.call(0, 0, 0), 0);
            CHECK.due("taken in it", d.x.count(7), 4);
            CHECK.due("five in one between", d.x.call(0, 1, 0), SPENT);
        }
    }

    /** A FAILURE that goes up through METHODS and MAKERS is counted once. */
    private static void oneFailureThatGoesFarIsOne() {
        Draft d = methods(3, 3);
        int zero = d.number(0);
        int seven = d.number(7);
        d.x.method(0, 1, false, d.over(zero, zero));
        int far = d.tried(d.call(0, zero), seven);
        for (int i = 0; i < 4; i++) {
            d.makerActs(2, 1, far);
        }
        CHECK.due("four that go up through six METHODS", d.make(2), 0);
        CHECK.log("taken", d.x, 7, 2, 0, 7, 2, 0, 7, 2, 0, 7, 2, 0);
        CHECK.counts("far", d.x, d.x.count(0), 3, 1, 4, 68, 27, 27, 4);
    }

    // "10 TRY: a, or, if it FAILS, ... b"
    private static void aTryTakesOneTwoThree() {
        for (int kind = 1; kind <= 3; kind++) {
            Draft d = oneClass();
            d.x.method(0, 0, false, d.tried(d.failing(kind), d.given()));
            d.make(0);
            CHECK.due("a TRY of kind " + kind, d.x.call(0, 0, 44), 0);
            CHECK.due("b", d.x.result(), 44);
            CHECK.due("taken", d.x.count(7), 1);
        }
    }

    // "but not by 8": EXPS, METHODS, MAKERS, OBJECTS, FAILURES
    private static void aTryTakesNoSpent() {
        for (int way = 0; way < 5; way++) {
            Draft d = new Draft();
            d.x.type(NONE, 0, 0);
            d.x.type(NONE, 0, 0);
            d.logger(0, 0);
            int zero = d.number(0);
            int logs = d.logging(0, 5);
            int endless = d.made(1, zero, zero);
            int taken = d.tried(d.capture(0), zero);
            d.makerActs(1, 2, endless);
            int fifth = d.plus(d.plus(taken, taken), d.plus(taken, d.plus(taken, d.capture(0))));
            int[] spent = {d.many(301), d.call(2, zero), endless, d.made(0, zero, zero), fifth};
            d.x.method(0, 1, false, d.tried(spent[way], logs));
            d.x.method(0, 2, false, d.call(2, zero));
            makeUpTo(d, 0, way == 3 ? 100 : 1);
            CHECK.due("a TRY of SPENT, way " + way, d.x.call(0, 1, 0), SPENT);
            CHECK.due("b is not worked", d.x.count(3), 0);
            CHECK.due("taken", d.x.count(7), way == 4 ? 4 : 0);
        }
    }

    private static void aTryTakesWhatComesFromFarBelow() {
        Draft d = new Draft();
        d.chain(2, 0, 1);
        int zero = d.number(0);
        int given = d.given();
        d.x.begins(0, 0, d.over(given, given));
        d.x.passed(1, given);
        d.x.method(0, 0, false, d.made(1, zero, zero));
        d.x.method(0, 1, false, d.tried(d.plus(d.call(0, zero), zero), given));
        d.x.make(0, 1, 0, 0, 0);
        CHECK.due("a FAILURE in the MAKER of a PARENT, in a METHOD", d.x.call(0, 1, 66), 0);
        CHECK.due("GIVEN of b is that of the code the TRY stands in", d.x.result(), 66);
        CHECK.counts("far below", d.x, d.x.count(0), 2, 2, 0, 12, 4, 4, 1);
        CHECK.due("the OBJECT in the midst is BROKEN", d.x.told(1, 1), 2);
        CHECK.due("a call behind it is well", d.x.call(0, 1, 67), 0);
        CHECK.due("its RESULT", d.x.result(), 67);
    }

    private static void theNearestTryTakes() {
        Draft d = oneClass();
        d.x.method(0, 0, false, d.tried(d.tried(d.failing(2), d.number(1)), d.number(2)));
        d.make(0);
        CHECK.due("a TRY in a TRY", d.x.call(0, 0, 0), 0);
        CHECK.due("the inner one's b", d.x.result(), 1);
        CHECK.due("taken once", d.x.count(7), 1);
    }

    private static void bOfATryIsNotTried() {
        for (int kind = 1; kind <= 3; kind++) {
            Draft d = oneClass();
            int fails = d.failing(kind);
            int twice = d.tried(d.failing(2), fails);
            d.x.method(0, 0, false, twice);
            d.x.method(0, 1, false, d.tried(twice, d.number(3)));
            d.make(0);
            CHECK.due("b FAILS by " + kind, d.x.call(0, 0, 0), -10 - kind);
            CHECK.due("taken once", d.x.count(7), 1);
            CHECK.due("a TRY around takes that", d.x.call(0, 1, 0), 0);
            CHECK.due("its b", d.x.result(), 3);
            CHECK.due("taken twice", d.x.count(7), 2);
        }
    }
}
