/** The boundary cases of EXPS: how many, their parts, their numbers, and what each sort comes to at its edges. */
public final class ExpBoundsTest {
    private static final Check CHECK = new Check();
    private static final int NONE = -1, UNKNOWN = -2, ROOM = -5;
    private static final int NOTHING = -11, INDEX = -12, ZERO = -13;
    private static final long MIN = Long.MIN_VALUE, MAX = Long.MAX_VALUE;
    private static final long[] LONGS = {MIN, MIN + 1, -1L << 32, -1, 0, 1, 1L << 32, MAX};

    public static void main(String[] args) {
        sixtyExps();
        partsAreEarlier();
        partsMayBeOne();
        sumsWrap();
        differencesWrap();
        divisionIsCutTowardZero();
        divisionByZero();
        aNumberIsAnyLong();
        givenIsAnyLong();
        capturesAreAnyLong();
        capturesThatTheClassHas();
        fieldsThatTheClassHas();
        namesOfCalls();
        callOfTheParentTakesItsPart();
        madeTakesBothParts();
        madeComesToItsOwnFieldZero();
        madeOfTheLastClass();
        partsAreWorkedInOrder();
        partsOfMadeAreWorkedInOrder();
        aThatFailsEndsAllButTry();
        bThatFailsEndsTheRest();
        tryWorksBOnlyIfAFails();
        codeSeesItsOwnClass();
        codeSeesTheObjectAtHand();
        givenIsThatOfTheCode();
        CHECK.end();
    }

    /** What an EXP comes to in METHOD 3 of CLASS 0, or the answer of the call() if it FAILS. */
    private static long run(Draft d, int exp, long given) {
        d.x.method(0, 3, false, exp);
        int answer = d.x.call(d.make(0), 3, given);
        return answer == 0 ? d.x.result() : answer;
    }

    private static Draft oneClass(int captures, int fields) {
        Draft d = new Draft();
        d.x.type(NONE, captures, fields);
        return d;
    }

    // "EXPS (60 at most), numbered as they come"
    private static void sixtyExps() {
        Draft d = oneClass(0, 0);
        for (int i = 0; i < 60; i++) {
            CHECK.due("EXP " + i, d.number(100 + i), i);
        }
        for (int sort = 0; sort <= 10; sort++) {
            CHECK.due("a 61st EXP of sort " + sort, d.x.exp(sort, 0, 0, 0), ROOM);
        }
        CHECK.due("60 are there", d.x.count(0), 60);
        CHECK.due("the 61st is none", d.x.method(0, 0, false, 60), UNKNOWN);
        CHECK.due("the 60th is worked", run(d, 59, 0), 159);
    }

    // "parts a, b (earlier EXPS ...)"
    private static void partsAreEarlier() {
        for (int sort = 4; sort <= 10; sort++) {
            Draft d = oneClass(0, 0);
            d.number(1);
            d.number(2);
            boolean hasB = sort != 7 && sort != 8;
            CHECK.due("a of " + sort + " is itself", d.x.exp(sort, 0, 2, 0), UNKNOWN);
            CHECK.due("b of " + sort + " is itself", d.x.exp(sort, 0, 0, 2), hasB ? UNKNOWN : 2);
            int own = d.x.count(0);
            CHECK.due("the latest parts of " + sort, d.x.exp(sort, 0, own - 1, own - 1), own);
            CHECK.due("a of " + sort + " is -1", d.x.exp(sort, 0, -1, 0), UNKNOWN);
            CHECK.due("b of " + sort + " is -1", d.x.exp(sort, 0, 0, -1), hasB ? UNKNOWN : own + 1);
        }
    }

    // "they may be one"
    private static void partsMayBeOne() {
        long[][] dues = {{4, 14}, {5, 0}, {6, 1}, {10, 7}};
        for (long[] due : dues) {
            Draft d = oneClass(0, 0);
            int seven = d.number(7);
            CHECK.due("one EXP twice in " + due[0], run(d, d.x.exp((int) due[0], 0, seven, seven), 0), due[1]);
        }
    }

    private static void two(int sort, long a, long b, long want) {
        Draft d = oneClass(0, 0);
        int left = d.number(a);
        int right = d.number(b);
        CHECK.due("sort " + sort + " of " + a + ", " + b, run(d, d.x.exp(sort, 0, left, right), 0), want);
    }

    // "a long that wraps"
    private static void sumsWrap() {
        two(4, MAX, 0, MAX);
        two(4, MAX, 1, MIN);
        two(4, MIN, 0, MIN);
        two(4, MIN, -1, MAX);
        two(4, MAX, MAX, -2);
        two(4, MIN, MIN, 0);
    }

    private static void differencesWrap() {
        two(5, MIN, 0, MIN);
        two(5, MIN, 1, MAX);
        two(5, MAX, -1, MIN);
        two(5, 0, MIN, MIN);
        two(5, -1, MIN, MAX);
        two(5, MIN, MAX, 1);
    }

    // "a / b (cut toward 0)"
    private static void divisionIsCutTowardZero() {
        two(6, 7, 2, 3);
        two(6, -7, 2, -3);
        two(6, 7, -2, -3);
        two(6, -7, -2, 3);
        two(6, 1, 2, 0);
        two(6, -1, 2, 0);
        two(6, 1, -2, 0);
        two(6, 0, -5, 0);
        two(6, MAX, MIN, 0);
        two(6, MIN, MAX, -1);
        two(6, MIN, 1, MIN);
        // The one division that wraps.
        two(6, MIN, -1, MIN);
        two(6, MAX, -1, -MAX);
    }

    // "3 ZERO"
    private static void divisionByZero() {
        for (long a : LONGS) {
            two(6, a, 0, ZERO);
        }
    }

    // "0 n"
    private static void aNumberIsAnyLong() {
        for (long n : LONGS) {
            Draft d = oneClass(0, 0);
            CHECK.due("the number " + n, run(d, d.number(n), 5), n);
        }
    }

    // "1 GIVEN"
    private static void givenIsAnyLong() {
        for (long n : LONGS) {
            Draft d = oneClass(0, 1);
            int given = d.given();
            d.x.begins(0, 0, given);
            CHECK.due("GIVEN " + n, run(d, given, n), n);
            d.x.make(0, n, 0, 0, 0);
            CHECK.due("a MAKER's GIVEN " + n, d.x.field(1, 0, 0), n);
        }
    }

    private static void capturesAreAnyLong() {
        for (long n : LONGS) {
            for (int k = 0; k < 3; k++) {
                Draft d = oneClass(3, 0);
                d.x.method(0, 0, false, d.capture(k));
                d.x.make(0, 5, k == 0 ? n : 5, k == 1 ? n : 5, k == 2 ? n : 5);
                CHECK.due("call", d.x.call(0, 0, 5), 0);
                CHECK.due("CAPTURE " + k + " is worked", d.x.result(), n);
                CHECK.due("CAPTURE " + k + " is told", d.x.capture(0, 0, k), n);
            }
        }
    }

    // "2 INDEX (a CAPTURE ... that the CLASS has not)"
    private static void capturesThatTheClassHas() {
        for (int captures = 0; captures <= 3; captures++) {
            for (int n = 0; n <= 2; n++) {
                Draft d = oneClass(captures, 4);
                d.x.method(0, 0, false, d.capture(n));
                d.x.make(0, 9, 20, 21, 22);
                CHECK.due("CAPTURE " + n + " of " + captures, d.x.call(0, 0, 9), n < captures ? 0 : INDEX);
                CHECK.due("what it comes to", d.x.result(), n < captures ? 20 + n : 0);
                CHECK.due("what is told of it", d.x.capture(0, 0, n), n < captures ? 20 + n : 0);
            }
        }
    }

    // "2 INDEX (a ... FIELD that the CLASS has not)": read, set by an ACT, set as it begins
    private static void fieldsThatTheClassHas() {
        for (int fields = 0; fields <= 4; fields++) {
            for (int n = 0; n <= 3; n++) {
                Draft d = oneClass(3, fields);
                boolean has = n < fields;
                d.x.method(0, 0, false, d.field(n));
                d.x.method(0, 1, false, NONE);
                d.x.act(0, 1, 0, n, d.given());
                d.make(0);
                CHECK.due("FIELD " + n + " of " + fields + " is set", d.x.call(0, 1, 30 + n), has ? 0 : INDEX);
                CHECK.due("FIELD " + n + " of " + fields + " is read", d.x.call(0, 0, 0), has ? 0 : INDEX);
                CHECK.due("what it comes to", d.x.result(), has ? 30 + n : 0);
                CHECK.due("what is told of it", d.x.field(0, 0, n), has ? 30 + n : 0);
                for (int other = 0; other < 4; other++) {
                    CHECK.due("another one", d.x.field(0, 0, other), has && other == n ? 30 + n : 0);
                }
            }
        }
    }

    // "7 CALL: NAME n, GIVEN a", NAMES being 0 to 3
    private static void namesOfCalls() {
        for (int name = 0; name <= 3; name++) {
            for (int there = 0; there <= 3; there++) {
                Draft d = oneClass(0, 0);
                d.logger(0, there);
                d.makerActs(0, 2, d.call(name, d.number(40 + name)));
                CHECK.due("CALL " + name + " where " + there + " is", d.make(0), name == there ? 0 : NOTHING);
                CHECK.due("numbers in the LOG", d.x.count(3), name == there ? 1 : 0);
                CHECK.due("its GIVEN", d.x.logged(0), name == there ? 40 + name : 0);
            }
        }
    }

    // "8 the same of the PARENT"
    private static void callOfTheParentTakesItsPart() {
        for (int name = 0; name <= 3; name++) {
            for (int there = 0; there <= 3; there++) {
                Draft d = new Draft();
                d.chain(2, 0, 0);
                d.logger(0, there);
                d.makerActs(1, 2, d.parentCall(name, d.number(40 + name)));
                CHECK.due("PARENT's " + name + " where " + there + " is", d.make(1), name == there ? 0 : NOTHING);
                CHECK.due("its GIVEN", d.x.logged(0), name == there ? 40 + name : 0);
            }
        }
    }

    // "9 MADE: an OBJECT of CLASS n is made, GIVEN a, CAPTURE 0 is b (others 0)"
    private static void madeTakesBothParts() {
        for (int captures = 0; captures <= 3; captures++) {
            Draft d = oneClass(0, 0);
            d.x.type(NONE, captures, 1);
            d.x.begins(1, 0, d.given());
            CHECK.due("FIELD 0 of it", run(d, d.made(1, d.number(6), d.number(7)), 5), 6);
            for (int k = 0; k < 3; k++) {
                CHECK.due("CAPTURE " + k + " of " + captures, d.x.capture(1, 1, k), k == 0 && captures > 0 ? 7 : 0);
            }
            CHECK.due("its CLASS", d.x.told(1, 0), 1);
        }
    }

    // "its own FIELD 0 behind that, 0 if it has none"
    private static void madeComesToItsOwnFieldZero() {
        for (int fields = 0; fields <= 4; fields++) {
            Draft d = new Draft();
            d.x.type(NONE, 0, 1);
            d.x.type(0, 0, fields);
            int above = d.number(50);
            int own = d.number(60);
            int last = d.number(61);
            d.x.begins(0, 0, above);
            for (int k = 0; k < fields; k++) {
                d.x.begins(1, k, own);
            }
            if (fields > 0) {
                d.x.act(1, NONE, 0, 0, last);
            }
            d.x.method(0, 0, false, d.made(1, above, above));
            d.make(0);
            CHECK.due("call", d.x.call(0, 0, 0), 0);
            CHECK.due("MADE of one with " + fields + " FIELDS", d.x.result(), fields == 0 ? 0 : 61);
            CHECK.due("the FIELD of its PARENT is another", d.x.field(1, 0, 0), 50);
        }
    }

    // "9 ... CLASS n": the last of eight, and the one beyond
    private static void madeOfTheLastClass() {
        Draft d = new Draft();
        d.chain(7, 0, 0);
        int one = d.number(1);
        CHECK.due("the eighth CLASS is not there yet", d.x.exp(9, 7, one, one), UNKNOWN);
        d.x.type(NONE, 0, 1);
        d.x.begins(7, 0, one);
        int made = d.made(7, one, one);
        CHECK.due("MADE of the eighth CLASS", made, 1);
        CHECK.due("MADE of a ninth", d.x.exp(9, 8, one, one), UNKNOWN);
        CHECK.due("what it comes to", run(d, made, 0), 1);
    }

    // "Parts are worked a, then b"
    private static void partsAreWorkedInOrder() {
        for (int sort = 4; sort <= 6; sort++) {
            Draft d = oneClass(0, 0);
            d.logger(0, 0);
            int exp = d.x.exp(sort, 0, d.logging(0, 8), d.logging(0, 2));
            run(d, exp, 0);
            CHECK.log("parts of " + sort, d.x, 8, 0, 0, 2, 0, 0);
        }
        Draft d = new Draft();
        d.chain(2, 0, 0);
        d.logger(0, 0);
        int part = d.logging(0, 8);
        d.makerActs(1, 2, d.call(0, part));
        d.makerActs(1, 2, d.parentCall(0, part));
        d.make(1);
        CHECK.log("the part of 7 and 8, then the METHOD", d.x, 8, 0, 0, 8, 0, 0, 8, 0, 0, 8, 0, 0);
        CHECK.due("METHODS begun, and two MAKERS", d.x.count(5), 6);
    }

    // "a, then b ..., then the rest": of 9 the OBJECT comes behind both
    private static void partsOfMadeAreWorkedInOrder() {
        Draft d = oneClass(0, 0);
        d.x.type(NONE, 0, 0);
        d.logger(0, 0);
        d.makerActs(1, 1, d.number(3));
        run(d, d.made(1, d.logging(0, 1), d.logging(0, 2)), 0);
        CHECK.log("parts of 9, then its MAKER", d.x, 1, 0, 0, 2, 0, 0, 3, 1, 1);
    }

    private static void aThatFailsEndsAllButTry() {
        for (int sort = 4; sort <= 9; sort++) {
            Draft d = oneClass(0, 0);
            d.logger(0, 0);
            int fails = d.failing(2);
            int logs = d.logging(0, 2);
            CHECK.due("a of " + sort + " FAILS", run(d, d.x.exp(sort, 0, fails, logs), 0), INDEX);
            CHECK.due("neither b nor the rest is worked: EXPS", d.x.count(4), 2);
            CHECK.due("neither b nor the rest is worked: METHODS", d.x.count(5), 1);
            CHECK.due("neither b nor the rest is worked: OBJECTS", d.x.count(2), 1);
            CHECK.due("neither b nor the rest is worked: LOG", d.x.count(3), 0);
        }
    }

    private static void bThatFailsEndsTheRest() {
        int[] both = {4, 5, 6, 9};
        for (int sort : both) {
            Draft d = oneClass(0, 0);
            int zero = d.number(0);
            CHECK.due("b of " + sort + " FAILS", run(d, d.x.exp(sort, 0, zero, d.failing(2)), 0), INDEX);
            CHECK.due("a and b were begun", d.x.count(4), 3);
            CHECK.due("no OBJECT was made", d.x.count(2), 1);
        }
    }

    // "of 10 b as told": "a, or, if it FAILS, ... b"
    private static void tryWorksBOnlyIfAFails() {
        Draft d = oneClass(0, 0);
        d.logger(0, 0);
        CHECK.due("a TRY whose a is well", run(d, d.tried(d.logging(0, 1), d.logging(0, 2)), 0), 1);
        CHECK.log("a alone was worked", d.x, 1, 0, 0);
        CHECK.due("nothing was taken", d.x.count(7), 0);
        Draft e = oneClass(0, 0);
        e.logger(0, 0);
        CHECK.due("a TRY whose a FAILS", run(e, e.tried(e.plus(e.logging(0, 1), e.failing(2)), e.logging(0, 2)), 0), 2);
        CHECK.log("a was worked up to there, then b", e.x, 1, 0, 0, 2, 0, 0);
        CHECK.due("one was taken", e.x.count(7), 1);
    }

    // "CAPTURES, FIELDS are those of the code's CLASS"
    private static void codeSeesItsOwnClass() {
        Draft d = new Draft();
        d.x.type(NONE, 1, 2);
        d.x.type(0, 3, 1);
        int zero = d.field(0);
        int one = d.field(1);
        int third = d.capture(2);
        d.x.begins(0, 0, d.number(10));
        d.x.begins(0, 1, d.number(11));
        d.x.begins(1, 0, d.number(20));
        d.x.method(0, 0, false, zero);
        d.x.method(0, 1, false, third);
        d.x.method(1, 2, false, one);
        d.x.method(1, 3, false, zero);
        d.x.make(1, 0, 1, 2, 3);
        CHECK.due("a METHOD of the PARENT", d.x.call(0, 0, 0), 0);
        CHECK.due("sees FIELD 0 of the PARENT", d.x.result(), 10);
        CHECK.due("and no CAPTURE of the CLASS below", d.x.call(0, 1, 0), INDEX);
        CHECK.due("a METHOD of the CLASS sees no FIELD of the PARENT", d.x.call(0, 2, 0), INDEX);
        CHECK.due("a METHOD of the CLASS", d.x.call(0, 3, 0), 0);
        CHECK.due("sees its own FIELD 0", d.x.result(), 20);
    }

    // "of the OBJECT at hand"
    private static void codeSeesTheObjectAtHand() {
        Draft d = oneClass(1, 1);
        int given = d.given();
        int field = d.field(0);
        d.x.begins(0, 0, given);
        // Another OBJECT of the CLASS is made first; FIELD 0 and CAPTURE 0 are then still those of the first.
        int other = d.made(0, d.number(1000), d.number(500));
        d.x.method(0, 0, false, d.plus(other, d.plus(field, d.capture(0))));
        d.x.act(0, 0, 0, 0, d.plus(other, field));
        d.x.make(0, 3, 20, 0, 0);
        CHECK.due("call", d.x.call(0, 0, 0), 0);
        CHECK.due("FIELD 0 and CAPTURE 0 behind another's making", d.x.result(), 1000 + 1003 + 20);
        CHECK.due("FIELD 0 was set in the OBJECT at hand", d.x.field(0, 0, 0), 1003);
        CHECK.due("not in the others", d.x.field(1, 0, 0), 1000);
        CHECK.due("not in the others", d.x.field(2, 0, 0), 1000);
    }

    // "GIVEN ... of the code's CLASS: the one in whose MAKER, METHOD it stands"
    private static void givenIsThatOfTheCode() {
        Draft d = new Draft();
        d.chain(2, 0, 1);
        int given = d.given();
        d.x.passed(1, d.plus(given, d.number(100)));
        d.x.begins(0, 0, given);
        d.x.begins(1, 0, given);
        d.x.method(0, 0, false, given);
        d.x.method(0, 1, false, d.plus(d.call(0, d.number(1000)), given));
        d.x.make(1, 7, 0, 0, 0);
        CHECK.due("GIVEN of the PARENT's MAKER is what was PASSED", d.x.field(0, 0, 0), 107);
        CHECK.due("GIVEN of the MAKER is its own behind that", d.x.field(0, 1, 0), 7);
        CHECK.due("call", d.x.call(0, 1, 30), 0);
        CHECK.due("GIVEN of a METHOD is its own behind a CALL", d.x.result(), 1030);
    }
}
