/** Promises 8 to 11: MAKING and CALLING, in the order of the document. */
public final class RunTest {
    private static final Check CHECK = new Check();
    private static final int NONE = -1, UNKNOWN = -2, OUTSIDE = -3, STATE = -4, ROOM = -5;
    private static final int NOTHING = -11, INDEX = -12, ZERO = -13;

    public static void main(String[] args) {
        arithmetic();
        orderOfMaking();
        overriddenSeesCapturesAndNoFields();
        capturesOfParents();
        parentUnsetWhilePassedIsWorked();
        passedIsZeroAtFirst();
        fieldSetAheadOfItsBeginning();
        privateAndParentCalls();
        codeClassOfAnInheritedMethod();
        madeWithin();
        brokenOnes();
        tries();
        makeRefusals();
        callRefusals();
        resultStays();
        told();
        CHECK.end();
    }

    private static void arithmetic() {
        due(4, Long.MAX_VALUE, 1, Long.MIN_VALUE);
        due(5, Long.MIN_VALUE, 1, Long.MAX_VALUE);
        due(5, 3, 10, -7);
        due(6, 7, 2, 3);
        due(6, -7, 2, -3);
        due(6, 7, -2, -3);
        due(6, Long.MIN_VALUE, -1, Long.MIN_VALUE);
        due(10, 3, 4, 3);
    }

    private static void due(int sort, long left, long right, long want) {
        MakerOrders x = new MakerOrders();
        x.type(NONE, 0, 0);
        x.exp(0, left, 0, 0);
        x.exp(0, right, 0, 0);
        x.exp(sort, 0, 0, 1);
        x.method(0, 0, false, 2);
        x.make(0, 0, 0, 0, 0);
        CHECK.due("sort " + sort, x.call(0, 0, 0), 0);
        CHECK.due("sort " + sort + " of " + left + ", " + right, x.result(), want);
    }

    /** METHODS that log a number tell who comes when. */
    private static void orderOfMaking() {
        MakerOrders x = new MakerOrders();
        x.type(NONE, 0, 2);
        x.type(0, 0, 2);
        x.exp(1, 0, 0, 0);
        x.method(0, 0, false, 0);
        x.act(0, 0, 1, 0, 0);
        for (int i = 1; i <= 7; i++) {
            x.exp(0, 10 * i, 0, 0);
            x.exp(7, 0, 2 * i - 1, 0);
        }
        x.act(1, NONE, 2, 0, 14);
        x.act(1, NONE, 2, 0, 2);
        x.begins(1, 1, 12);
        x.begins(1, 0, 10);
        x.act(0, NONE, 2, 0, 8);
        x.begins(0, 1, 6);
        x.begins(0, 0, 4);
        x.passed(1, 2);
        CHECK.due("make", x.make(1, 3, 0, 0, 0), 0);
        CHECK.log("order", x, 10, 0, 0, 20, 0, 0, 30, 0, 0, 40, 0, 0, 50, 0, 0, 60, 0, 0, 70, 0, 0, 10, 0, 0);
        CHECK.counts("order", x, 15, 2, 1, 8, 32, 10, 10, 0);
        CHECK.due("field 0 of 0", x.field(0, 0, 0), 20);
        CHECK.due("field 1 of 0", x.field(0, 0, 1), 30);
        CHECK.due("field 0 of 1", x.field(0, 1, 0), 50);
        CHECK.due("field 1 of 1", x.field(0, 1, 1), 60);
    }

    private static void overriddenSeesCapturesAndNoFields() {
        MakerOrders x = new MakerOrders();
        x.type(NONE, 0, 0);
        x.type(0, 1, 1);
        x.exp(0, 9, 0, 0);
        x.exp(2, 0, 0, 0);
        x.exp(3, 0, 0, 0);
        x.exp(7, 0, 0, 0);
        x.method(0, 0, false, NONE);
        x.method(1, 0, false, NONE);
        x.act(1, 0, 1, 0, 1);
        x.act(1, 0, 1, 0, 2);
        x.act(0, NONE, 2, 0, 3);
        x.begins(1, 0, 0);
        x.act(1, NONE, 2, 0, 3);
        CHECK.due("make", x.make(1, 0, 4, 5, 6), 0);
        CHECK.log("overridden", x, 4, 1, 0, 0, 1, 0, 4, 1, 0, 9, 1, 0);
    }

    private static void capturesOfParents() {
        MakerOrders x = new MakerOrders();
        x.type(NONE, 3, 0);
        x.type(0, 2, 0);
        x.type(1, 3, 0);
        x.make(2, 0, 7, 8, 9);
        long[][] want = {{7, 8, 0}, {7, 8, 0}, {7, 8, 9}};
        for (int c = 0; c < 3; c++) {
            for (int k = 0; k < 3; k++) {
                CHECK.due("capture(0, " + c + ", " + k + ")", x.capture(0, c, k), want[c][k]);
            }
        }
    }

    private static void parentUnsetWhilePassedIsWorked() {
        MakerOrders x = new MakerOrders();
        x.type(NONE, 1, 0);
        x.type(0, 1, 0);
        x.exp(2, 0, 0, 0);
        x.exp(7, 0, 0, 0);
        x.method(0, 0, false, 0);
        x.act(0, 0, 1, 0, 0);
        x.passed(1, 1);
        x.act(1, NONE, 1, 0, 1);
        x.make(1, 0, 6, 0, 0);
        CHECK.log("PASSED comes ahead of the parent's captures", x, 0, 0, 0, 6, 0, 0, 6, 1, 0);
    }

    private static void passedIsZeroAtFirst() {
        MakerOrders x = new MakerOrders();
        x.type(NONE, 0, 0);
        x.type(0, 0, 0);
        x.exp(0, 5, 0, 0);
        x.exp(1, 0, 0, 0);
        x.act(0, NONE, 1, 0, 1);
        x.make(1, 8, 0, 0, 0);
        CHECK.log("0, not EXP 0", x, 0, 0, 0);
        CHECK.due("and no EXP is begun for it", x.count(4), 1);
    }

    private static void fieldSetAheadOfItsBeginning() {
        MakerOrders x = new MakerOrders();
        x.type(NONE, 0, 0);
        x.type(0, 0, 2);
        x.exp(0, 5, 0, 0);
        x.exp(0, 6, 0, 0);
        x.exp(7, 0, 0, 0);
        x.method(1, 0, false, NONE);
        x.act(1, 0, 0, 0, 0);
        x.act(1, 0, 0, 1, 0);
        x.act(0, NONE, 2, 0, 2);
        x.begins(1, 1, 1);
        x.make(1, 0, 0, 0, 0);
        CHECK.due("a field without a beginning keeps it", x.field(0, 1, 0), 5);
        CHECK.due("one with a beginning loses it", x.field(0, 1, 1), 6);
    }

    private static void privateAndParentCalls() {
        MakerOrders x = new MakerOrders();
        for (int c = 0; c < 4; c++) {
            x.type(c - 1, 0, 0);
        }
        x.exp(0, 0, 0, 0);
        for (int i = 1; i <= 4; i++) {
            x.exp(0, i, 0, 0);
        }
        x.exp(7, 0, 0, 0);
        x.exp(8, 0, 0, 0);
        x.method(0, 0, false, 1);
        x.method(1, 0, true, 2);
        x.method(2, 0, false, 3);
        for (int c = 0; c < 3; c++) {
            x.method(c, 1, false, NONE);
            x.act(c, 1, 1, 0, 5);
            x.method(c, 3, true, NONE);
        }
        x.method(3, 2, false, 6);
        x.method(2, 1, false, 6);
        x.method(1, 1, true, NONE);
        for (int c = 0; c < 4; c++) {
            x.act(c, NONE, 1, 0, 5);
        }
        x.make(3, 0, 0, 0, 0);
        CHECK.log("each maker's call", x, 3, 0, 0, 2, 1, 0, 3, 2, 0, 3, 3, 0);
        CHECK.due("8 from 3", x.call(0, 2, 0), 0);
        CHECK.due("finds 2", x.result(), 3);
        CHECK.due("8 from 2", x.call(0, 1, 0), 0);
        CHECK.due("passes by the private one of 1", x.result(), 1);
        CHECK.due("private ones are not found from without", x.call(0, 3, 0), NOTHING);
    }

    private static void codeClassOfAnInheritedMethod() {
        MakerOrders x = new MakerOrders();
        x.type(NONE, 2, 1);
        x.type(0, 1, 1);
        x.exp(1, 0, 0, 0);
        x.exp(2, 1, 0, 0);
        x.exp(3, 0, 0, 0);
        x.method(0, 0, false, 2);
        x.act(0, 0, 0, 0, 0);
        x.act(0, 0, 1, 0, 1);
        x.method(1, 1, false, 1);
        x.make(1, 0, 4, 5, 0);
        CHECK.due("call", x.call(0, 0, 12), 0);
        CHECK.due("result", x.result(), 12);
        CHECK.due("the field of the code's class", x.field(0, 0, 0), 12);
        CHECK.due("not of the object's class", x.field(0, 1, 0), 0);
        CHECK.log("the code's class is logged", x, 0, 0, 0);
        CHECK.due("a capture of the parent is none of the class", x.call(0, 1, 0), INDEX);
    }

    private static void madeWithin() {
        MakerOrders x = new MakerOrders();
        x.type(NONE, 3, 1);
        x.type(0, 3, 1);
        x.type(0, 0, 0);
        x.exp(0, 20, 0, 0);
        x.exp(1, 0, 0, 0);
        x.exp(9, 1, 1, 0);
        x.exp(9, 2, 1, 0);
        x.begins(1, 0, 1);
        x.begins(0, 0, 0);
        x.method(0, 0, false, 2);
        x.method(0, 1, false, 3);
        x.make(0, 0, 0, 0, 0);
        CHECK.due("call", x.call(0, 0, 6), 0);
        CHECK.due("its own FIELD 0", x.result(), 6);
        CHECK.counts("made", x, 4, 3, 2, 0, 5, 3, 3, 0);
        CHECK.due("told its class", x.told(1, 0), 1);
        CHECK.due("told MADE", x.told(1, 1), 1);
        CHECK.due("capture 0 is b", x.capture(1, 1, 0), 20);
        CHECK.due("others 0", x.capture(1, 1, 1), 0);
        CHECK.due("others 0", x.capture(1, 1, 2), 0);
        CHECK.due("call", x.call(0, 1, 6), 0);
        CHECK.due("0 if the class has no field, though its parent has", x.result(), 0);
        CHECK.due("which is set", x.field(2, 0, 0), 20);
    }

    private static void brokenOnes() {
        MakerOrders x = new MakerOrders();
        x.type(NONE, 1, 2);
        x.type(NONE, 0, 1);
        x.exp(0, 0, 0, 0);
        x.exp(0, 5, 0, 0);
        x.exp(6, 0, 1, 0);
        x.exp(9, 0, 1, 1);
        x.exp(10, 0, 3, 1);
        x.begins(0, 0, 1);
        x.begins(0, 1, 2);
        x.act(0, NONE, 1, 0, 1);
        x.method(0, 0, false, 1);
        x.act(1, NONE, 1, 0, 1);
        x.act(1, NONE, 0, 0, 4);
        CHECK.due("make fails", x.make(0, 0, 3, 0, 0), ZERO);
        CHECK.due("told BROKEN", x.told(0, 1), 2);
        CHECK.due("what it has stays: capture", x.capture(0, 0, 0), 3);
        CHECK.due("what it has stays: field", x.field(0, 0, 0), 5);
        CHECK.due("the rest is 0", x.field(0, 0, 1), 0);
        CHECK.counts("broken", x, 5, 2, 1, 0, 4, 1, 1, 0);
        CHECK.due("no call on it", x.call(0, 0, 0), STATE);
        CHECK.due("make of one that tries", x.make(1, 0, 0, 0, 0), 1);
        CHECK.due("the one within is BROKEN", x.told(2, 1), 2);
        CHECK.due("the one around is MADE", x.told(1, 1), 1);
        CHECK.due("with what the TRY came to", x.field(1, 1, 0), 5);
        CHECK.counts("tried", x, 5, 2, 3, 1, 10, 2, 2, 1);
    }

    private static void tries() {
        MakerOrders x = new MakerOrders();
        x.type(NONE, 0, 1);
        x.exp(0, 0, 0, 0);
        x.exp(6, 0, 0, 0);
        x.exp(10, 0, 1, 1);
        x.exp(0, 4, 0, 0);
        x.exp(10, 0, 2, 3);
        x.exp(10, 0, 3, 1);
        x.method(0, 0, false, 2);
        x.method(0, 1, false, 4);
        x.method(0, 2, false, 5);
        x.make(0, 0, 0, 0, 0);
        CHECK.due("b fails too", x.call(0, 0, 0), ZERO);
        CHECK.due("one was taken", x.count(7), 1);
        CHECK.due("a TRY around takes that", x.call(0, 1, 0), 0);
        CHECK.due("and comes to its b", x.result(), 4);
        CHECK.due("two were taken", x.count(7), 2);
        CHECK.due("a does not fail", x.call(0, 2, 0), 0);
        CHECK.due("b is not begun", x.count(4), 2);
    }

    private static void makeRefusals() {
        MakerOrders x = new MakerOrders();
        x.type(NONE, 0, 0);
        CHECK.due("class -1", x.make(NONE, 0, 0, 0, 0), UNKNOWN);
        CHECK.due("class 1", x.make(1, 0, 0, 0, 0), UNKNOWN);
        for (int i = 0; i < 100; i++) {
            CHECK.due("make", x.make(0, 0, 0, 0, 0), i);
        }
        CHECK.due("101st", x.make(0, 0, 0, 0, 0), ROOM);
        CHECK.due("UNKNOWN ahead of ROOM", x.make(1, 0, 0, 0, 0), UNKNOWN);
        CHECK.counts("refused ones are not the latest", x, 0, 1, 100, 0, 0, 1, 1, 0);
        CHECK.due("the last object", x.told(99, 1), 1);
        CHECK.due("object 100 of a hundred", x.told(100, 1), UNKNOWN);
    }

    private static void callRefusals() {
        MakerOrders x = new MakerOrders();
        x.type(NONE, 0, 0);
        x.exp(0, 0, 0, 0);
        x.exp(6, 0, 0, 0);
        x.type(NONE, 0, 0);
        x.act(1, NONE, 2, 0, 1);
        x.method(0, 0, false, 0);
        x.make(0, 0, 0, 0, 0);
        x.make(1, 0, 0, 0, 0);
        x.call(0, 0, 0);
        CHECK.due("object -1", x.call(NONE, 0, 0), UNKNOWN);
        CHECK.due("object 2", x.call(2, 0, 0), UNKNOWN);
        CHECK.due("UNKNOWN ahead of OUTSIDE", x.call(2, 4, 0), UNKNOWN);
        CHECK.due("name 4", x.call(0, 4, 0), OUTSIDE);
        CHECK.due("name -1", x.call(0, NONE, 0), OUTSIDE);
        CHECK.due("OUTSIDE ahead of STATE", x.call(1, 4, 0), OUTSIDE);
        CHECK.due("BROKEN", x.call(1, 0, 0), STATE);
        CHECK.counts("refused ones are not the latest", x, 2, 2, 2, 0, 1, 1, 1, 0);
        CHECK.due("no such method", x.call(0, 1, 0), NOTHING);
        CHECK.counts("that one was not refused", x, 2, 2, 2, 0, 0, 0, 0, 0);
    }

    private static void resultStays() {
        MakerOrders x = new MakerOrders();
        x.type(NONE, 0, 0);
        x.exp(1, 0, 0, 0);
        x.exp(6, 0, 0, 0);
        x.method(0, 0, false, 0);
        x.method(0, 1, false, 1);
        x.make(0, 3, 0, 0, 0);
        CHECK.due("0 before", x.result(), 0);
        x.call(0, 0, -44);
        CHECK.due("result", x.result(), -44);
        x.call(0, 1, 0);
        CHECK.due("a call that FAILS leaves it", x.result(), -44);
        x.call(0, 9, 0);
        CHECK.due("a call that is refused leaves it", x.result(), -44);
        x.make(0, 3, 0, 0, 0);
        CHECK.due("make leaves it", x.result(), -44);
        x.call(0, 1, 5);
        CHECK.due("the next one", x.result(), 1);
    }

    private static void told() {
        MakerOrders x = new MakerOrders();
        x.type(NONE, 0, 0);
        x.type(0, 0, 0);
        x.make(1, 0, 0, 0, 0);
        CHECK.due("class", x.told(0, 0), 1);
        CHECK.due("MADE", x.told(0, 1), 1);
        CHECK.due("object 1", x.told(1, 0), UNKNOWN);
        CHECK.due("object -1", x.told(NONE, 1), UNKNOWN);
        CHECK.due("what 2", x.told(0, 2), OUTSIDE);
        CHECK.due("what -1", x.told(0, -1), OUTSIDE);
        CHECK.due("UNKNOWN ahead of OUTSIDE", x.told(1, 2), UNKNOWN);
    }
}
