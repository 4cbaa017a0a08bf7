/**
 * Makers of classes, in the order in which things come to be: what was captured, the parent's maker,
 * what fields begin with, the maker's own acts.
 *
 * <p>Words of the document that Java keeps for itself have other names here: a CLASS is a Type, an
 * OBJECT a Thing, the ACTS and the RESULT of a MAKER or METHOD are a Code.
 */
public final class MakerOrders {
    public static final int NONE = -1, UNKNOWN = -2, OUTSIDE = -3, STATE = -4, ROOM = -5;

    private static final int MOST_EXPS = 60;
    private static final int MOST_TYPES = 8;
    private static final int MOST_CAPTURES = 3;
    private static final int MOST_FIELDS = 4;
    private static final int MOST_ACTS = 8;
    private static final int NAMES = 4;
    private static final int MOST_THINGS = 100;
    private static final int MOST_LOGGED = 200;
    private static final int MOST_BEGUN = 300;
    private static final int MOST_UNDER_WAY = 12;
    private static final int MOST_FAILURES = 4;

    /** An EXP takes four turns at most: ahead of a, behind a, behind b, and as a FAILURE goes by. */
    private static final int MOST_TURNS = 4 * MOST_BEGUN;

    private static final int NOTHING = 1, INDEX = 2, ZERO = 3, SPENT = 8;

    private static final int FAILED = -10;
    private static final int DONE = 1;

    private final Machine machine;
    private final Plan plan;
    private long latestResult;

    public MakerOrders() {
        machine = new Machine();
        plan = machine.plan;
    }

    public int exp(int sort, long n, int a, int b) {
        if (!Exp.isSort(sort)) {
            return OUTSIDE;
        }
        if (!plan.knowsParts(sort, n, a, b)) {
            return UNKNOWN;
        }
        if (!Exp.isNumberOf(sort, n)) {
            return OUTSIDE;
        }
        return plan.addExp(sort, n, a, b);
    }

    public int type(int parent, int captures, int fields) {
        Type above = plan.typeAt(parent);
        if (above == null && parent != NONE) {
            return UNKNOWN;
        }
        if (captures < 0 || captures > MOST_CAPTURES || fields < 0 || fields > MOST_FIELDS) {
            return OUTSIDE;
        }
        return plan.addType(above, captures, fields);
    }

    public int passed(int c, int exp) {
        Type type = plan.typeAt(c);
        if (type == null || !plan.knowsExp(exp)) {
            return UNKNOWN;
        }
        if (type.parent == null || machine.hasThings()) {
            return STATE;
        }
        type.passed = exp;
        return DONE;
    }

    public int begins(int c, int field, int exp) {
        Type type = plan.typeAt(c);
        if (type == null || !plan.knowsExpOrNone(exp)) {
            return UNKNOWN;
        }
        if (field < 0 || field >= type.fields) {
            return OUTSIDE;
        }
        if (machine.hasThings()) {
            return STATE;
        }
        type.begins[field] = exp;
        return DONE;
    }

    public int method(int c, int name, boolean isPrivate, int result) {
        Type type = plan.typeAt(c);
        if (type == null || !plan.knowsExpOrNone(result)) {
            return UNKNOWN;
        }
        if (!isName(name)) {
            return OUTSIDE;
        }
        if (machine.hasThings()) {
            return STATE;
        }
        type.methods[name] = new Code(isPrivate, result);
        return DONE;
    }

    public int act(int c, int name, int sort, int n, int exp) {
        Type type = plan.typeAt(c);
        if (type == null || !plan.knowsExp(exp)) {
            return UNKNOWN;
        }
        Code code = name == NONE ? type.maker : type.methodAt(name);
        if (code == null) {
            return isName(name) ? UNKNOWN : OUTSIDE;
        }
        if (!Act.isSort(sort) || !Act.isNumberOf(sort, n)) {
            return OUTSIDE;
        }
        if (machine.hasThings()) {
            return STATE;
        }
        return code.addAct(sort, n, exp);
    }

    public int make(int c, long given, long c0, long c1, long c2) {
        Type type = plan.typeAt(c);
        if (type == null) {
            return UNKNOWN;
        }
        if (machine.isFull()) {
            return ROOM;
        }
        machine.tally.restart();
        Thing thing = machine.build(type, given, c0, c1, c2);
        if (thing == null || machine.tally.hasFailed()) {
            return FAILED - machine.tally.failure;
        }
        return thing.number;
    }

    public int call(int object, int name, long given) {
        Thing thing = machine.thingAt(object);
        if (thing == null) {
            return UNKNOWN;
        }
        if (!isName(name)) {
            return OUTSIDE;
        }
        if (!thing.isMade) {
            return STATE;
        }
        machine.tally.restart();
        long value = machine.runMethod(Type.openHome(thing.type, name), name, thing, given);
        if (machine.tally.hasFailed()) {
            return FAILED - machine.tally.failure;
        }
        latestResult = value;
        return 0;
    }

    public long result() {
        return latestResult;
    }

    public int told(int object, int what) {
        Thing thing = machine.thingAt(object);
        if (thing == null) {
            return UNKNOWN;
        }
        if (what == 0) {
            return thing.type.number;
        }
        if (what == 1) {
            return thing.isMade ? 1 : 2;
        }
        return OUTSIDE;
    }

    public long field(int object, int c, int k) {
        Thing thing = machine.thingAt(object);
        return thing == null ? 0 : thing.fieldOf(plan.typeAt(c), k);
    }

    public long capture(int object, int c, int k) {
        Thing thing = machine.thingAt(object);
        return thing == null ? 0 : thing.captureOf(plan.typeAt(c), k);
    }

    public int below(int c, int other) {
        Type type = plan.typeAt(c);
        Type above = plan.typeAt(other);
        if (type == null || above == null) {
            return UNKNOWN;
        }
        return type.isBelow(above) ? 1 : 0;
    }

    public int finds(int c, int code, int name) {
        Type own = plan.typeAt(c);
        Type standing = plan.typeAt(code);
        if (own == null || (standing == null && code != NONE)) {
            return UNKNOWN;
        }
        if (!isName(name) || (standing != null && !own.isBelow(standing))) {
            return OUTSIDE;
        }
        Type home = Type.calledHome(own, standing, name);
        return home == null ? NONE : home.number;
    }

    public long logged(int i) {
        return machine.log.has(i) ? machine.log.numbers[i] : 0;
    }

    public int logOf(int i, int what) {
        if (!machine.log.has(i)) {
            return NONE;
        }
        if (what == 0) {
            return machine.log.types[i];
        }
        return what == 1 ? machine.log.things[i] : NONE;
    }

    public int count(int what) {
        switch (what) {
            case 0: return plan.expCount;
            case 1: return plan.typeCount;
            case 2: return machine.thingCount;
            case 3: return machine.log.size;
            case 4: return machine.tally.expsBegun;
            case 5: return machine.tally.codesBegun;
            case 6: return machine.tally.codesEnded;
            case 7: return machine.tally.taken;
            default: return OUTSIDE;
        }
    }

    public int clear() {
        int had = machine.log.size;
        machine.log.size = 0;
        return had;
    }

    private static boolean isName(int name) {
        return name >= 0 && name < NAMES;
    }

    /** An EXP: a sort, a number, and the numbers of its parts, which came earlier. */
    private static final class Exp {
        static final int NUMBER = 0, GIVEN = 1, CAPTURE = 2, FIELD = 3, PLUS = 4, MINUS = 5, OVER = 6;
        static final int CALL = 7, PARENT_CALL = 8, MADE = 9, TRY = 10;

        final int sort;
        final long n;
        final int a;
        final int b;

        Exp(int sort, long n, int a, int b) {
            this.sort = sort;
            this.n = n;
            this.a = a;
            this.b = b;
        }

        static boolean isSort(int sort) {
            return sort >= NUMBER && sort <= TRY;
        }

        static boolean hasA(int sort) {
            return sort >= PLUS;
        }

        static boolean hasB(int sort) {
            return sort >= PLUS && sort != CALL && sort != PARENT_CALL;
        }

        /** Whether n is within its bounds; the CLASS of MADE is looked up, not bounded. */
        static boolean isNumberOf(int sort, long n) {
            switch (sort) {
                case CAPTURE: return n >= 0 && n < MOST_CAPTURES;
                case FIELD: return n >= 0 && n < MOST_FIELDS;
                case CALL:
                case PARENT_CALL: return n >= 0 && n < NAMES;
                default: return true;
            }
        }
    }

    /** An ACT of a MAKER or METHOD. */
    private static final class Act {
        static final int SET = 0, LOG = 1, WORK = 2;

        final int sort;
        final int field;
        final int exp;

        Act(int sort, int field, int exp) {
            this.sort = sort;
            this.field = field;
            this.exp = exp;
        }

        static boolean isSort(int sort) {
            return sort >= SET && sort <= WORK;
        }

        static boolean isNumberOf(int sort, int n) {
            return sort != SET || (n >= 0 && n < MOST_FIELDS);
        }
    }

    /** What a MAKER or a METHOD does: its ACTS and its RESULT. */
    private static final class Code {
        final boolean isPrivate;
        final int result;
        final Act[] acts = new Act[MOST_ACTS];
        int actCount;

        Code(boolean isPrivate, int result) {
            this.isPrivate = isPrivate;
            this.result = result;
        }

        int addAct(int sort, int field, int exp) {
            if (actCount >= acts.length) {
                return ROOM;
            }
            acts[actCount] = new Act(sort, field, exp);
            actCount++;
            return actCount;
        }
    }

    /** A CLASS. */
    private static final class Type {
        final int number;
        final Type parent;
        /** How many CLASSES stand above it: where its rows stand in a Thing. */
        final int level;
        final int captures;
        final int fields;
        final int[] begins = new int[MOST_FIELDS];
        final Code maker = new Code(false, NONE);
        final Code[] methods = new Code[NAMES];
        int passed = NONE;

        Type(int number, Type parent, int captures, int fields) {
            this.number = number;
            this.parent = parent;
            this.level = parent == null ? 0 : parent.level + 1;
            this.captures = captures;
            this.fields = fields;
            for (int k = 0; k < begins.length; k++) {
                begins[k] = NONE;
            }
        }

        Code methodAt(int name) {
            return isName(name) ? methods[name] : null;
        }

        boolean isBelow(Type other) {
            for (Type at = this; at != null; at = at.parent) {
                if (at == other) {
                    return true;
                }
            }
            return false;
        }

        /** The nearest CLASS with an open METHOD of a NAME, from one on (which may be null) by PARENTS. */
        static Type openHome(Type from, int name) {
            for (Type at = from; at != null; at = at.parent) {
                Code code = at.methodAt(name);
                if (code != null && !code.isPrivate) {
                    return at;
                }
            }
            return null;
        }

        /** The CLASS whose METHOD a CALL finds that stands in code of a CLASS (null: from without). */
        static Type calledHome(Type own, Type standing, int name) {
            Code code = standing == null ? null : standing.methodAt(name);
            if (code != null && code.isPrivate) {
                return standing;
            }
            return openHome(own, name);
        }
    }

    /** The EXPS and the CLASSES. */
    private static final class Plan {
        final Exp[] exps = new Exp[MOST_EXPS];
        final Type[] types = new Type[MOST_TYPES];
        int expCount;
        int typeCount;

        boolean knowsExp(int exp) {
            return exp >= 0 && exp < expCount;
        }

        boolean knowsExpOrNone(int exp) {
            return exp == NONE || knowsExp(exp);
        }

        boolean knowsParts(int sort, long n, int a, int b) {
            if (Exp.hasA(sort) && !knowsExp(a)) {
                return false;
            }
            if (Exp.hasB(sort) && !knowsExp(b)) {
                return false;
            }
            return sort != Exp.MADE || typeAt(n) != null;
        }

        Exp expAt(int exp) {
            return knowsExp(exp) ? exps[exp] : null;
        }

        /** Takes a long, since the CLASS of MADE is told as one. */
        Type typeAt(long c) {
            return c >= 0 && c < typeCount ? types[(int) c] : null;
        }

        int addExp(int sort, long n, int a, int b) {
            if (expCount >= exps.length) {
                return ROOM;
            }
            exps[expCount] = new Exp(sort, n, a, b);
            expCount++;
            return expCount - 1;
        }

        int addType(Type parent, int captures, int fields) {
            if (typeCount >= types.length) {
                return ROOM;
            }
            types[typeCount] = new Type(typeCount, parent, captures, fields);
            typeCount++;
            return typeCount - 1;
        }
    }

    /** An OBJECT, with rows for its CLASS and each one above. */
    private static final class Thing {
        final int number;
        final Type type;
        final long[] captures;
        final long[] fields;
        /** False while it is being made, so that it is BROKEN if that FAILS. */
        boolean isMade;

        Thing(int number, Type type) {
            this.number = number;
            this.type = type;
            this.captures = new long[(type.level + 1) * MOST_CAPTURES];
            this.fields = new long[(type.level + 1) * MOST_FIELDS];
        }

        boolean hasCapture(Type home, int k) {
            return home != null && k >= 0 && k < home.captures && type.isBelow(home);
        }

        boolean hasField(Type home, int k) {
            return home != null && k >= 0 && k < home.fields && type.isBelow(home);
        }

        long captureOf(Type home, int k) {
            return hasCapture(home, k) ? captures[home.level * MOST_CAPTURES + k] : 0;
        }

        long fieldOf(Type home, int k) {
            return hasField(home, k) ? fields[home.level * MOST_FIELDS + k] : 0;
        }

        /** A number for a CAPTURE that the CLASS has not is dropped: a maker hands on three always. */
        void setCapture(Type home, int k, long value) {
            if (hasCapture(home, k)) {
                captures[home.level * MOST_CAPTURES + k] = value;
            }
        }

        void setField(Type home, int k, long value) {
            if (hasField(home, k)) {
                fields[home.level * MOST_FIELDS + k] = value;
            }
        }
    }

    /** The LOG. */
    private static final class Log {
        final long[] numbers = new long[MOST_LOGGED];
        final int[] types = new int[MOST_LOGGED];
        final int[] things = new int[MOST_LOGGED];
        int size;

        boolean has(int i) {
            return i >= 0 && i < size;
        }

        void add(long number, int type, int thing) {
            if (size >= numbers.length) {
                return;
            }
            numbers[size] = number;
            types[size] = type;
            things[size] = thing;
            size++;
        }
    }

    /** A MAKER or METHOD under way: the code's CLASS, the OBJECT at hand, GIVEN. */
    private static final class Frame {
        Type home;
        Thing thing;
        long given;
    }

    /** EXPS that were begun and wait for a part, the innermost last. */
    private static final class Pending {
        static final int FRESH = 0, IN_A = 1, IN_B = 2;

        final Exp[] exps = new Exp[MOST_BEGUN];
        final int[] stages = new int[MOST_BEGUN];
        final long[] firsts = new long[MOST_BEGUN];
        int size;

        boolean isFull() {
            return size >= exps.length;
        }

        void push(Exp exp) {
            if (isFull()) {
                return;
            }
            exps[size] = exp;
            stages[size] = FRESH;
            firsts[size] = 0;
            size++;
        }
    }

    /** What the latest make() or call() has begun, ended and taken, and the FAILURE that goes up in it. */
    private static final class Tally {
        int expsBegun;
        int codesBegun;
        int codesEnded;
        int taken;
        int failures;
        /** 0: nothing FAILS at the moment. */
        int failure;

        void restart() {
            expsBegun = 0;
            codesBegun = 0;
            codesEnded = 0;
            taken = 0;
            failures = 0;
            failure = 0;
        }

        boolean hasFailed() {
            return failure != 0;
        }

        void fail(int why) {
            failure = why;
            if (why == SPENT) {
                return;
            }
            failures++;
            if (failures > MOST_FAILURES) {
                failure = SPENT;
            }
        }

        void take() {
            failure = 0;
            taken++;
        }
    }

    /**
     * Runs MAKERS and METHODS. These call one another, twelve deep at most; the EXPS within one wait in a
     * row instead, since they may stand three hundred deep.
     */
    private static final class Machine {
        final Plan plan = new Plan();
        final Log log = new Log();
        final Tally tally = new Tally();
        final Thing[] things = new Thing[MOST_THINGS];
        int thingCount;
        private final Pending pending = new Pending();
        private final Frame[] frames = new Frame[MOST_UNDER_WAY];
        private int depth;

        Machine() {
            for (int i = 0; i < frames.length; i++) {
                frames[i] = new Frame();
            }
        }

        boolean hasThings() {
            return thingCount > 0;
        }

        boolean isFull() {
            return thingCount >= things.length;
        }

        Thing thingAt(int object) {
            return object >= 0 && object < thingCount ? things[object] : null;
        }

        /** MAKING an OBJECT; null if it is the 101st. */
        private Thing build(Type type, long given, long c0, long c1, long c2) {
            if (isFull()) {
                tally.fail(SPENT);
                return null;
            }
            Thing thing = new Thing(thingCount, type);
            things[thingCount] = thing;
            thingCount++;
            runMaker(type, thing, given, c0, c1, c2);
            thing.isMade = !tally.hasFailed();
            return thing;
        }

        private void runMaker(Type home, Thing thing, long given, long c0, long c1, long c2) {
            Frame frame = enter(home, thing, given);
            if (frame == null) {
                return;
            }
            thing.setCapture(home, 0, c0);
            thing.setCapture(home, 1, c1);
            thing.setCapture(home, 2, c2);
            runParent(home, frame);
            beginFields(home, frame);
            runActs(home.maker, frame);
            leave();
        }

        private void runParent(Type home, Frame frame) {
            if (home.parent == null) {
                return;
            }
            long given = home.passed == NONE ? 0 : work(home.passed, frame);
            if (tally.hasFailed()) {
                return;
            }
            Thing thing = frame.thing;
            long c0 = thing.captureOf(home, 0);
            long c1 = thing.captureOf(home, 1);
            long c2 = thing.captureOf(home, 2);
            runMaker(home.parent, thing, given, c0, c1, c2);
        }

        private void beginFields(Type home, Frame frame) {
            for (int k = 0; k < home.fields && !tally.hasFailed(); k++) {
                if (home.begins[k] != NONE) {
                    setField(frame, k, work(home.begins[k], frame));
                }
            }
        }

        /** The METHOD of a NAME that a CLASS has; the CLASS is null if none was found. */
        private long runMethod(Type home, int name, Thing thing, long given) {
            Code code = home == null ? null : home.methodAt(name);
            if (code == null) {
                tally.fail(NOTHING);
                return 0;
            }
            Frame frame = enter(home, thing, given);
            if (frame == null) {
                return 0;
            }
            runActs(code, frame);
            long value = 0;
            if (code.result != NONE && !tally.hasFailed()) {
                value = work(code.result, frame);
            }
            leave();
            return value;
        }

        private void runActs(Code code, Frame frame) {
            for (int i = 0; i < code.actCount && !tally.hasFailed(); i++) {
                Act act = code.acts[i];
                long value = work(act.exp, frame);
                if (act.sort == Act.SET) {
                    setField(frame, act.field, value);
                } else if (act.sort == Act.LOG && !tally.hasFailed()) {
                    log.add(value, frame.home.number, frame.thing.number);
                }
            }
        }

        /** Sets nothing if the EXP that the value is of has FAILED. */
        private void setField(Frame frame, int k, long value) {
            if (tally.hasFailed()) {
                return;
            }
            if (frame.thing.hasField(frame.home, k)) {
                frame.thing.setField(frame.home, k, value);
            } else {
                tally.fail(INDEX);
            }
        }

        /** A MAKER or METHOD begins; null, and SPENT, if it would be the 13th under way. */
        private Frame enter(Type home, Thing thing, long given) {
            if (depth >= frames.length) {
                tally.fail(SPENT);
                return null;
            }
            Frame frame = frames[depth];
            depth++;
            tally.codesBegun++;
            frame.home = home;
            frame.thing = thing;
            frame.given = given;
            return frame;
        }

        private void leave() {
            depth--;
            tally.codesEnded++;
        }

        /** What an EXP comes to; of no meaning if it FAILS. */
        private long work(int exp, Frame frame) {
            int floor = pending.size;
            long value = 0;
            begin(exp);
            for (int turn = 0; turn < MOST_TURNS && pending.size > floor; turn++) {
                if (tally.hasFailed()) {
                    unwind(pending.size - 1);
                } else {
                    value = advance(pending.size - 1, value, frame);
                }
            }
            return value;
        }

        private void begin(int number) {
            Exp exp = plan.expAt(number);
            if (exp == null || tally.expsBegun >= MOST_BEGUN || pending.isFull()) {
                tally.fail(SPENT);
                return;
            }
            tally.expsBegun++;
            pending.push(exp);
        }

        /** A FAILURE reaches the innermost EXP that waits: a TRY takes it, others end. */
        private void unwind(int at) {
            Exp exp = pending.exps[at];
            boolean tries = exp.sort == Exp.TRY && pending.stages[at] == Pending.IN_A;
            if (tries && tally.failure != SPENT) {
                tally.take();
                pending.stages[at] = Pending.IN_B;
                begin(exp.b);
            } else {
                pending.size = at;
            }
        }

        /** The innermost EXP goes on, with the value of the part that it waited for. */
        private long advance(int at, long value, Frame frame) {
            Exp exp = pending.exps[at];
            int stage = pending.stages[at];
            if (stage == Pending.FRESH && Exp.hasA(exp.sort)) {
                pending.stages[at] = Pending.IN_A;
                begin(exp.a);
                return 0;
            }
            if (stage == Pending.IN_A && Exp.hasB(exp.sort) && exp.sort != Exp.TRY) {
                pending.stages[at] = Pending.IN_B;
                pending.firsts[at] = value;
                begin(exp.b);
                return 0;
            }
            pending.size = at;
            return finish(exp, pending.firsts[at], value, frame);
        }

        /** The rest of an EXP, behind its parts: last is the value of its last part, first of one ahead. */
        private long finish(Exp exp, long first, long last, Frame frame) {
            int n = (int) exp.n;
            switch (exp.sort) {
                case Exp.NUMBER: return exp.n;
                case Exp.GIVEN: return frame.given;
                case Exp.CAPTURE: return readCapture(frame, n);
                case Exp.FIELD: return readField(frame, n);
                case Exp.PLUS: return first + last;
                case Exp.MINUS: return first - last;
                case Exp.OVER: return divide(first, last);
                case Exp.CALL:
                    return runMethod(Type.calledHome(frame.thing.type, frame.home, n), n, frame.thing, last);
                case Exp.PARENT_CALL:
                    return runMethod(Type.openHome(frame.home.parent, n), n, frame.thing, last);
                case Exp.MADE: return fieldOfMade(plan.typeAt(exp.n), first, last);
                default: return last;
            }
        }

        private long readCapture(Frame frame, int k) {
            if (!frame.thing.hasCapture(frame.home, k)) {
                tally.fail(INDEX);
            }
            return frame.thing.captureOf(frame.home, k);
        }

        private long readField(Frame frame, int k) {
            if (!frame.thing.hasField(frame.home, k)) {
                tally.fail(INDEX);
            }
            return frame.thing.fieldOf(frame.home, k);
        }

        private long divide(long first, long last) {
            if (last == 0) {
                tally.fail(ZERO);
                return 0;
            }
            return first / last;
        }

        private long fieldOfMade(Type type, long given, long captured) {
            if (type == null) {
                tally.fail(NOTHING);
                return 0;
            }
            Thing thing = build(type, given, captured, 0, 0);
            return thing == null ? 0 : thing.fieldOf(type, 0);
        }
    }
}
