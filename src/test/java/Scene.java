import java.util.ArrayList;
import java.util.List;

/**
 * A state of a MakerOrders, built anew as often as it is asked for, with what a test must know of it to tell
 * which calls are refused there.
 */
enum Scene {
    NEW(0, 0, 0, 0),
    PLANNED(9, 3, 0, 0),
    MADE(9, 3, 3, 0),
    /** A BROKEN OBJECT alone: it is an OBJECT all the same. */
    BROKEN(9, 3, 1, 0),
    FULL(60, 8, 0, 8),
    FULL_AND_MADE(60, 8, 100, 8);

    private static final int NONE = -1;
    /** CLASS and NAME of every METHOD; NONE is a MAKER. */
    private static final int[][] CODES = {{0, NONE}, {1, NONE}, {2, NONE}, {0, 0}, {1, 0}, {1, 1}, {2, 3}};

    final int exps;
    final int types;
    final int objects;
    final int fullActs;
    private List<Long> trace;

    Scene(int exps, int types, int objects, int fullActs) {
        this.exps = exps;
        this.types = types;
        this.objects = objects;
        this.fullActs = fullActs;
    }

    boolean hasExp(int exp) {
        return exp >= 0 && exp < exps;
    }

    boolean hasType(long c) {
        return c >= 0 && c < types;
    }

    boolean hasObject(int object) {
        return object >= 0 && object < objects;
    }

    boolean hasBroken(int object) {
        return this == BROKEN ? object == 0 : object == 1 && objects > 1;
    }

    boolean hasParent(int c) {
        return c == 1;
    }

    int fieldsOf(int c) {
        return c == 0 ? 2 : c == 1 ? 3 : c == 2 ? 1 : 0;
    }

    boolean hasMethod(int c, int name) {
        for (int[] code : CODES) {
            if (hasType(c) && code[0] == c && code[1] == name && name != NONE) {
                return true;
            }
        }
        return false;
    }

    /** Of a MAKER (name NONE) or METHOD that is there. */
    int actsOf(int c, int name) {
        boolean isUsed = name != NONE || c < 3;
        return !isUsed ? 0 : fullActs > 0 ? fullActs : c == 1 && name == NONE ? 2 : 1;
    }

    MakerOrders build() {
        Draft d = new Draft();
        if (types > 0) {
            plan(d);
            fill(d.x);
        }
        if (this == BROKEN) {
            d.make(2);
        } else if (objects > 0) {
            d.x.make(1, 7, 11, 12, 13);
            d.make(2);
            for (int object = 2; object < objects; object++) {
                d.x.make(0, 4, 21, 22, 23);
            }
            d.x.call(0, 1, 6);
        }
        return d.x;
    }

    /** Each part of a CLASS is used, so that a change to one shows once OBJECTS are made. */
    private static void plan(Draft d) {
        MakerOrders x = d.x;
        x.type(NONE, 2, 2);
        x.type(0, 3, 3);
        x.type(NONE, 0, 1);
        int five = d.number(5);
        int given = d.given();
        int capture = d.capture(0);
        int field = d.field(0);
        int plus = d.plus(five, given);
        int call = d.call(0, given);
        int over = d.over(five, given);
        int parentCall = d.parentCall(0, plus);
        int tried = d.tried(over, plus);
        x.passed(1, plus);
        x.begins(0, 0, given);
        x.begins(0, 1, plus);
        x.begins(1, 0, capture);
        x.begins(1, 2, tried);
        x.begins(2, 0, over);
        x.method(0, 0, false, field);
        x.act(0, 0, 1, 0, given);
        x.method(1, 0, true, plus);
        x.act(1, 0, 0, 1, given);
        x.method(1, 1, false, call);
        x.act(1, 1, 1, 0, field);
        x.method(2, 3, false, over);
        x.act(2, 3, 1, 0, five);
        x.act(0, NONE, 1, 0, call);
        x.act(1, NONE, 0, 1, call);
        x.act(1, NONE, 1, 0, parentCall);
        x.act(2, NONE, 1, 0, field);
    }

    private void fill(MakerOrders x) {
        for (int exp = PLANNED.exps; exp < exps; exp++) {
            x.exp(0, exp, 0, 0);
        }
        for (int type = PLANNED.types; type < types; type++) {
            x.type(NONE, 0, 0);
        }
        for (int[] code : CODES) {
            for (int acts = actsAtFirst(code); acts < fullActs; acts++) {
                x.act(code[0], code[1], 2, 0, 0);
            }
        }
    }

    private static int actsAtFirst(int[] code) {
        return code[0] == 1 && code[1] == NONE ? 2 : 1;
    }

    /** What trace() answers of an object that stays as it was built. */
    List<Long> trace() {
        if (trace == null) {
            trace = trace(build());
        }
        return trace;
    }

    /** All that can be asked, then a run that works what was planned; some 260 calls, as 512 are all there may be. */
    static List<Long> trace(MakerOrders x) {
        List<Long> answers = new ArrayList<>();
        ask(x, answers);
        for (int[] code : CODES) {
            answers.add((long) x.act(code[0], code[1], 2, 0, 0));
        }
        int before = x.count(2);
        int[] types = {0, 1, 2, 2};
        for (int i = 0; i < types.length; i++) {
            answers.add((long) x.make(types[i], i == 3 ? 0 : 4 + i, 31, 32, 33));
            addCounts(x, answers, 2);
        }
        int[] objects = {0, Math.max(before - 1, 1)};
        for (int object : objects) {
            for (int name = 0; name <= 3; name++) {
                answers.add((long) x.call(object, name, 5));
                answers.add(x.result());
                addCounts(x, answers, 4);
            }
        }
        addSlots(x, answers, 0);
        addSlots(x, answers, x.count(2) - 3);
        addLog(x, answers, x.count(3) - 1);
        answers.add((long) x.exp(0, 9, 0, 0));
        answers.add((long) x.type(NONE, 1, 1));
        return answers;
    }

    private static void ask(MakerOrders x, List<Long> answers) {
        addCounts(x, answers, 0);
        answers.add(x.result());
        int[] logged = {0, 1, 2, x.count(3) - 1, x.count(3)};
        for (int i : logged) {
            addLog(x, answers, i);
        }
        for (int c = 0; c < 3; c++) {
            for (int name = 0; name <= 3; name++) {
                answers.add((long) x.finds(c, NONE, name));
                answers.add((long) x.finds(c, c, name));
            }
            for (int other = 0; other < 3; other++) {
                answers.add((long) x.below(c, other));
            }
        }
        int[] objects = {0, 1, x.count(2) - 1};
        for (int object : objects) {
            answers.add((long) x.told(object, 0));
            answers.add((long) x.told(object, 1));
            addSlots(x, answers, object);
        }
    }

    private static void addCounts(MakerOrders x, List<Long> answers, int from) {
        for (int what = from; what <= 7; what++) {
            answers.add((long) x.count(what));
        }
    }

    private static void addLog(MakerOrders x, List<Long> answers, int i) {
        answers.add(x.logged(i));
        answers.add((long) x.logOf(i, 0));
        answers.add((long) x.logOf(i, 1));
    }

    private static void addSlots(MakerOrders x, List<Long> answers, int object) {
        for (int c = 0; c < 3; c++) {
            for (int k = 0; k < 4; k++) {
                answers.add(x.field(object, c, k));
            }
            for (int k = 0; k < 3; k++) {
                answers.add(x.capture(object, c, k));
            }
        }
    }
}
