import java.util.List;
import java.util.function.ToLongFunction;

/**
 * "Refused, and nothing changes: UNKNOWN, OUTSIDE, STATE, ROOM; the first that fits." Each call is made with
 * right and wrong arguments together, in every Scene; behind a refused one, all that is asked and run is
 * answered as if it had not been.
 */
public final class RefusalTest {
    private static final Check CHECK = new Check();
    private static final int NONE = -1, UNKNOWN = -2, OUTSIDE = -3, STATE = -4, ROOM = -5;
    private static final int MIN = Integer.MIN_VALUE, MAX = Integer.MAX_VALUE;

    private static Scene scene;

    public static void main(String[] args) {
        for (Scene each : Scene.values()) {
            scene = each;
            theSceneIsAsTold();
            exps();
            types();
            passed();
            begins();
            methods();
            acts();
            makes();
            calls();
            told();
            below();
            finds();
            counts();
            askingChangesNothing();
        }
        CHECK.end();
    }

    /** The first that fits, or what a call that is not refused answers. */
    private static long first(boolean unknown, boolean outside, boolean state, boolean room, long otherwise) {
        return unknown ? UNKNOWN : outside ? OUTSIDE : state ? STATE : room ? ROOM : otherwise;
    }

    private static boolean isRefusal(long answer) {
        return answer <= UNKNOWN && answer >= ROOM;
    }

    private static void ask(String call, ToLongFunction<MakerOrders> asked, long want) {
        MakerOrders x = scene.build();
        CHECK.due(scene + ": " + call, asked.applyAsLong(x), want);
        if (isRefusal(want)) {
            unchanged(call, x);
        }
    }

    private static void unchanged(String call, MakerOrders x) {
        List<Long> due = scene.trace();
        List<Long> got = Scene.trace(x);
        int at = 0;
        while (at < due.size() && due.get(at).equals(got.get(at))) {
            at++;
        }
        CHECK.due(scene + ": answers that are as before behind " + call, at, due.size());
    }

    /** The last one within, and the ones beyond at both ends. */
    private static int[] around(int count) {
        return new int[] {MIN, -2, NONE, 0, count - 1, count, MAX};
    }

    private static boolean isName(int name) {
        return name >= 0 && name <= 3;
    }

    private static boolean isWithin(long n, long last) {
        return n >= 0 && n <= last;
    }

    private static void theSceneIsAsTold() {
        MakerOrders x = scene.build();
        CHECK.due(scene + ": EXPS", x.count(0), scene.exps);
        CHECK.due(scene + ": CLASSES", x.count(1), scene.types);
        CHECK.due(scene + ": OBJECTS", x.count(2), scene.objects);
        for (int object = 0; object < scene.objects; object++) {
            CHECK.due(scene + ": OBJECT " + object, x.told(object, 1), scene.hasBroken(object) ? 2 : 1);
        }
        if (scene == Scene.FULL_AND_MADE) {
            CHECK.due("the LOG is full", x.count(3), 200);
        }
    }

    // Promise 2: the sort is OUTSIDE ahead of all, n is OUTSIDE behind UNKNOWN
    private static void exps() {
        int[] sorts = {MIN, -1, 0, 1, 2, 3, 4, 5, 6, 7, 8, 9, 10, 11, MAX};
        long[] numbers = {Long.MIN_VALUE, -1, 0, 2, 3, 4, scene.types - 1, scene.types, 1L << 32, Long.MAX_VALUE};
        int[] parts = {MIN, NONE, 0, scene.exps - 1, scene.exps, MAX};
        for (int sort : sorts) {
            for (long n : numbers) {
                for (int a : parts) {
                    for (int b : parts) {
                        exp(sort, n, a, b);
                    }
                }
            }
        }
    }

    private static void exp(int sort, long n, int a, int b) {
        String call = "exp(" + sort + ", " + n + ", " + a + ", " + b + ")";
        boolean hasA = sort >= 4;
        boolean hasB = sort >= 4 && sort != 7 && sort != 8;
        boolean unknown = hasA && !scene.hasExp(a) || hasB && !scene.hasExp(b) || sort == 9 && !scene.hasType(n);
        boolean outside = sort == 2 && !isWithin(n, 2) || (sort == 3 || sort == 7 || sort == 8) && !isWithin(n, 3);
        long want = isWithin(sort, 10) ? first(unknown, outside, false, scene.exps == 60, scene.exps) : OUTSIDE;
        ask(call, x -> x.exp(sort, n, a, b), want);
    }

    // Promise 3; it is no STATE
    private static void types() {
        int[] captureds = {MIN, -1, 0, 3, 4, MAX};
        int[] fieldses = {MIN, -1, 0, 4, 5, MAX};
        for (int parent : around(scene.types)) {
            for (int captures : captureds) {
                for (int fields : fieldses) {
                    boolean unknown = parent != NONE && !scene.hasType(parent);
                    boolean outside = !isWithin(captures, 3) || !isWithin(fields, 4);
                    ask("type(" + parent + ", " + captures + ", " + fields + ")", x -> x.type(parent, captures, fields),
                        first(unknown, outside, false, scene.types == 8, scene.types));
                }
            }
        }
    }

    // Promise 4; NONE is no EXP here
    private static void passed() {
        for (int c : around(scene.types)) {
            for (int exp : around(scene.exps)) {
                passed(c, exp);
                passed(1, exp);
            }
        }
    }

    private static void passed(int c, int exp) {
        boolean unknown = !scene.hasType(c) || !scene.hasExp(exp);
        boolean state = !scene.hasParent(c) || scene.objects > 0;
        ask("passed(" + c + ", " + exp + ")", x -> x.passed(c, exp), first(unknown, false, state, false, 1));
    }

    // Promise 5; NONE is none
    private static void begins() {
        int[] cs = {MIN, NONE, 0, 1, 2, scene.types - 1, scene.types, MAX};
        int[] fields = {MIN, -1, 0, 1, 2, 3, 4, MAX};
        for (int c : cs) {
            for (int field : fields) {
                for (int exp : around(scene.exps)) {
                    boolean unknown = !scene.hasType(c) || exp != NONE && !scene.hasExp(exp);
                    boolean outside = field < 0 || field >= scene.fieldsOf(c);
                    ask("begins(" + c + ", " + field + ", " + exp + ")", x -> x.begins(c, field, exp),
                        first(unknown, outside, scene.objects > 0, false, 1));
                }
            }
        }
    }

    // Promise 6; NONE is none
    private static void methods() {
        int[] names = {MIN, -1, 0, 3, 4, MAX};
        for (int c : around(scene.types)) {
            for (int name : names) {
                for (int result : around(scene.exps)) {
                    boolean unknown = !scene.hasType(c) || result != NONE && !scene.hasExp(result);
                    String call = "method(" + c + ", " + name + ", .., " + result + ")";
                    long want = first(unknown, !isName(name), scene.objects > 0, false, 1);
                    ask(call, x -> x.method(c, name, false, result), want);
                    ask(call, x -> x.method(c, name, true, result), want);
                }
            }
        }
    }

    // Promise 7; NONE is THE MAKER's NAME, and no EXP
    private static void acts() {
        int[] cs = {MIN, NONE, 0, 1, scene.types - 1, scene.types, MAX};
        int[] names = {MIN, -2, NONE, 0, 1, 3, 4, MAX};
        int[] exps = {MIN, NONE, 0, scene.exps - 1, scene.exps, MAX};
        for (int c : cs) {
            for (int name : names) {
                for (int sort = -1; sort <= 3; sort++) {
                    for (int exp : exps) {
                        act(c, name, sort, -1, exp);
                        act(c, name, sort, 0, exp);
                        act(c, name, sort, 3, exp);
                        act(c, name, sort, 4, exp);
                    }
                }
            }
        }
        int[] far = {MIN, MAX};
        for (int at : far) {
            act(0, 0, at, 0, 0);
            act(0, 0, 0, at, 0);
            act(0, 0, 1, at, 0);
            act(0, 0, 2, at, 0);
        }
    }

    private static void act(int c, int name, int sort, int n, int exp) {
        boolean unknown = !scene.hasType(c) || isName(name) && !scene.hasMethod(c, name) || !scene.hasExp(exp);
        boolean outside = !isWithin(sort, 2) || name != NONE && !isName(name) || sort == 0 && !isWithin(n, 3);
        int acts = scene.actsOf(c, name);
        ask("act(" + c + ", " + name + ", " + sort + ", " + n + ", " + exp + ")", x -> x.act(c, name, sort, n, exp),
            first(unknown, outside, scene.objects > 0, acts == 8, acts + 1));
    }

    // Promise 8
    private static void makes() {
        for (int c : around(scene.types)) {
            boolean unknown = !scene.hasType(c);
            // Only CLASS 2 FAILS, GIVEN 0, which is not GIVEN here.
            ask("make(" + c + ")", x -> x.make(c, 1, 2, 3, 4),
                first(unknown, false, false, scene.objects == 100, scene.objects));
        }
    }

    // Promise 9
    private static void calls() {
        int[] objects = {MIN, NONE, 0, 1, 2, scene.objects - 1, scene.objects, 100, MAX};
        int[] names = {MIN, -1, 0, 3, 4, MAX};
        for (int object : objects) {
            for (int name : names) {
                MakerOrders x = scene.build();
                long want = first(!scene.hasObject(object), !isName(name), scene.hasBroken(object), false, 0);
                long got = x.call(object, name, 7);
                String call = "call(" + object + ", " + name + ", 7)";
                if (isRefusal(want)) {
                    CHECK.due(scene + ": " + call, got, want);
                    unchanged(call, x);
                } else {
                    // A FAILURE is no refusal; which one is asked elsewhere.
                    CHECK.due(scene + ": refusal of " + call, isRefusal(got) ? 1 : 0, 0);
                }
            }
        }
    }

    /** One that asks, answered or refused: nothing changes. */
    private static void asks(String call, ToLongFunction<MakerOrders> asked, long want) {
        MakerOrders x = scene.build();
        CHECK.due(scene + ": " + call, asked.applyAsLong(x), want);
        unchanged(call, x);
    }

    // Promise 11
    private static void told() {
        for (int object : around(scene.objects)) {
            for (int what : around(2)) {
                boolean isState = what == 1;
                int type = scene == Scene.BROKEN ? 2 : object == 0 ? 1 : object == 1 ? 2 : 0;
                int state = scene.hasBroken(object) ? 2 : 1;
                asks("told(" + object + ", " + what + ")", x -> x.told(object, what),
                    first(!scene.hasObject(object), !isWithin(what, 1), false, false, isState ? state : type));
            }
        }
    }

    // Promise 14
    private static void below() {
        for (int c : around(scene.types)) {
            for (int other : around(scene.types)) {
                boolean unknown = !scene.hasType(c) || !scene.hasType(other);
                asks("below(" + c + ", " + other + ")", x -> x.below(c, other),
                    first(unknown, false, false, false, c == other ? 1 : 0));
            }
        }
    }

    // Promise 15; NONE is from without, and no CLASS c
    private static void finds() {
        int[] cs = {MIN, -2, NONE, 0, 1, 2, scene.types - 1, scene.types, MAX};
        int[] names = {MIN, -1, 0, 1, 3, 4, MAX};
        for (int c : cs) {
            for (int code : cs) {
                for (int name : names) {
                    boolean unknown = !scene.hasType(c) || code != NONE && !scene.hasType(code);
                    boolean isBelow = code == NONE || c == code || c == 1 && code == 0;
                    asks("finds(" + c + ", " + code + ", " + name + ")", x -> x.finds(c, code, name),
                        first(unknown, !isName(name) || !isBelow, false, false, found(c, code, name)));
                }
            }
        }
    }

    private static int found(int c, int code, int name) {
        if (name == 0 && code == 1) {
            return 1;
        }
        boolean isOwn = name == 1 && c == 1 || name == 3 && c == 2;
        return isOwn ? c : name == 0 && c <= 1 ? 0 : NONE;
    }

    // Promise 18
    private static void counts() {
        int[] wrong = {MIN, -2, -1, 8, 9, MAX};
        for (int what : wrong) {
            asks("count(" + what + ")", x -> x.count(what), OUTSIDE);
        }
    }

    private static void askingChangesNothing() {
        MakerOrders x = scene.build();
        x.result();
        x.logged(0);
        x.logOf(0, 1);
        x.count(0);
        x.field(0, 0, 0);
        x.capture(0, 0, 0);
        unchanged("asking", x);
    }
}
