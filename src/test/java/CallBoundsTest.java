/** Which METHOD a CALL finds: every way in which four CLASSES may have an open one, a private one or none. */
public final class CallBoundsTest {
    private static final Check CHECK = new Check();
    private static final int NONE = -1;
    private static final int NOTHING = -11;
    private static final int CLASSES = 4;
    private static final int ABSENT = 0, OPEN = 1, PRIVATE = 2;
    /** What a TRY comes to where no METHOD is found: the number of no CLASS. */
    private static final int NOWHERE = 99;

    public static void main(String[] args) {
        for (int drawn = 0; drawn < 81; drawn++) {
            int[] kinds = {drawn % 3, drawn / 3 % 3, drawn / 9 % 3, drawn / 27};
            for (int c = 0; c < CLASSES; c++) {
                fromWithout(kinds, c);
                for (int code = 0; code <= c; code++) {
                    fromCode(kinds, c, code);
                }
            }
        }
        theParentOfTheCodeNotOfTheObject();
        otherBranchesAreNotLookedAt();
        anotherNameIsNotLookedAt();
        CHECK.end();
    }

    /** METHOD 0 of a CLASS comes to the number of the CLASS. */
    private static Draft chain(int[] kinds) {
        Draft d = new Draft();
        d.chain(CLASSES, 0, 0);
        for (int c = 0; c < CLASSES; c++) {
            int own = d.number(c);
            if (kinds[c] != ABSENT) {
                d.x.method(c, 0, kinds[c] == PRIVATE, own);
            }
        }
        return d;
    }

    private static String told(int[] kinds) {
        String text = "of";
        for (int kind : kinds) {
            text += kind == OPEN ? " open" : kind == PRIVATE ? " private" : " none";
        }
        return text;
    }

    // "the open one of the nearest CLASS, from ... on by PARENTS"
    private static int nearestOpen(int[] kinds, int from) {
        for (int c = from; c >= 0; c--) {
            if (kinds[c] == OPEN) {
                return c;
            }
        }
        return NONE;
    }

    // "A METHOD is called on an OBJECT from without (the open one of the nearest CLASS)"
    private static void fromWithout(int[] kinds, int c) {
        Draft d = chain(kinds);
        int due = nearestOpen(kinds, c);
        CHECK.due("finds(" + c + ", NONE) " + told(kinds), d.x.finds(c, NONE, 0), due);
        d.make(c);
        CHECK.due("call on a " + c + " " + told(kinds), d.x.call(0, 0, 0), due == NONE ? NOTHING : 0);
        CHECK.due("its RESULT", d.x.result(), due == NONE ? 0 : due);
        CHECK.due("METHODS begun", d.x.count(5), due == NONE ? 0 : 1);
    }

    // "if the code's CLASS has a private METHOD of it: that; else the open one of the nearest CLASS, from the
    // OBJECT's CLASS on by PARENTS. 8: the open one of the nearest CLASS from the PARENT of the code's CLASS on."
    private static void fromCode(int[] kinds, int c, int code) {
        Draft d = chain(kinds);
        int zero = d.number(0);
        int nowhere = d.number(NOWHERE);
        d.makerActs(code, 1, d.tried(d.call(0, zero), nowhere));
        d.makerActs(code, 1, d.tried(d.parentCall(0, zero), nowhere));
        int due = kinds[code] == PRIVATE ? code : nearestOpen(kinds, c);
        int above = nearestOpen(kinds, code - 1);
        String where = " in code of " + code + " on a " + c + " " + told(kinds);
        CHECK.due("finds" + where, d.x.finds(c, code, 0), due);
        CHECK.due("make", d.make(c), 0);
        CHECK.due("7" + where, d.x.logged(0), due == NONE ? NOWHERE : due);
        CHECK.due("8" + where, d.x.logged(1), above == NONE ? NOWHERE : above);
        CHECK.due("FAILURES taken", d.x.count(7), (due == NONE ? 1 : 0) + (above == NONE ? 1 : 0));
    }

    private static void theParentOfTheCodeNotOfTheObject() {
        Draft d = chain(new int[] {OPEN, OPEN, OPEN, OPEN});
        int zero = d.number(0);
        d.x.method(1, 1, false, d.parentCall(0, zero));
        d.make(3);
        CHECK.due("call of a METHOD that CLASS 1 has", d.x.call(0, 1, 0), 0);
        CHECK.due("8 in it goes to CLASS 0", d.x.result(), 0);
        CHECK.due("two METHODS", d.x.count(5), 2);
    }

    private static void otherBranchesAreNotLookedAt() {
        Draft d = new Draft();
        d.x.type(NONE, 0, 0);
        d.x.type(0, 0, 0);
        d.x.type(0, 0, 0);
        d.x.method(1, 0, false, d.number(1));
        d.make(2);
        CHECK.due("a METHOD of a CLASS beside", d.x.call(0, 0, 0), NOTHING);
        CHECK.due("finds", d.x.finds(2, 2, 0), NONE);
        CHECK.due("finds, standing above", d.x.finds(2, 0, 0), NONE);
        d.make(0);
        CHECK.due("a METHOD of a CLASS below", d.x.call(1, 0, 0), NOTHING);
    }

    private static void anotherNameIsNotLookedAt() {
        for (int there = 0; there <= 3; there++) {
            Draft d = new Draft();
            d.x.type(NONE, 0, 0);
            d.x.method(0, there, false, d.number(7));
            d.make(0);
            for (int name = 0; name <= 3; name++) {
                CHECK.due("call of " + name + " where " + there + " is", d.x.call(0, name, 0), name == there ? 0 : NOTHING);
                CHECK.due("finds " + name + " where " + there + " is", d.x.finds(0, 0, name), name == there ? 0 : NONE);
            }
        }
    }
}
