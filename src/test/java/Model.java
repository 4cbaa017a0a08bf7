import java.util.ArrayList;
import java.util.HashMap;
import java.util.List;
import java.util.Map;

/**
 * The document told a second time, as plainly as Java allows: EXPS are worked by recursion, FAILURES are
 * exceptions. It shares no code with MakerOrders, so that a fault in one shows against the other.
 */
final class Model {
    private static final int NONE = -1, UNKNOWN = -2, OUTSIDE = -3, STATE = -4, ROOM = -5;

    private record Exp(int sort, long n, int a, int b) { }

    private record Act(int sort, int n, int exp) { }

    private record Logged(long number, int type, int thing) { }

    private static final class Code {
        boolean hidden;
        int result = NONE;
        final List<Act> acts = new ArrayList<>();
    }

    private static final class Type {
        int parent;
        int captures;
        int fields;
        Integer passed;
        final Map<Integer, Integer> begins = new HashMap<>();
        final Code maker = new Code();
        final Map<Integer, Code> methods = new HashMap<>();
    }

    private static final class Thing {
        int type;
        int state = 2;
        final Map<String, Long> slots = new HashMap<>();
    }

    private static final class Failure extends Exception {
        private static final long serialVersionUID = 1L;
        final int kind;

        Failure(int kind) {
            super(null, null, false, false);
            this.kind = kind;
        }
    }

    private final List<Exp> exps = new ArrayList<>();
    private final List<Type> types = new ArrayList<>();
    private final List<Thing> things = new ArrayList<>();
    private final List<Logged> log = new ArrayList<>();
    private long result;
    private int begun, entered, ended, taken, failures, depth;

    private boolean known(int i, List<?> all) {
        return 0 <= i && i < all.size();
    }

    int exp(int sort, long n, int a, int b) {
        if (sort < 0 || sort > 10) {
            return OUTSIDE;
        }
        boolean two = sort == 4 || sort == 5 || sort == 6 || sort == 9 || sort == 10;
        boolean one = two || sort == 7 || sort == 8;
        if (one && !known(a, exps) || two && !known(b, exps) || sort == 9 && (n < 0 || n >= types.size())) {
            return UNKNOWN;
        }
        int most = sort == 2 ? 2 : 3;
        if ((sort == 2 || sort == 3 || sort == 7 || sort == 8) && (n < 0 || n > most)) {
            return OUTSIDE;
        }
        if (exps.size() == 60) {
            return ROOM;
        }
        exps.add(new Exp(sort, n, a, b));
        return exps.size() - 1;
    }

    int type(int parent, int captures, int fields) {
        if (parent != NONE && !known(parent, types)) {
            return UNKNOWN;
        }
        if (captures < 0 || captures > 3 || fields < 0 || fields > 4) {
            return OUTSIDE;
        }
        if (types.size() == 8) {
            return ROOM;
        }
        Type type = new Type();
        type.parent = parent;
        type.captures = captures;
        type.fields = fields;
        types.add(type);
        return types.size() - 1;
    }

    int passed(int c, int exp) {
        if (!known(c, types) || !known(exp, exps)) {
            return UNKNOWN;
        }
        if (types.get(c).parent == NONE || !things.isEmpty()) {
            return STATE;
        }
        types.get(c).passed = exp;
        return 1;
    }

    int begins(int c, int field, int exp) {
        if (!known(c, types) || exp != NONE && !known(exp, exps)) {
            return UNKNOWN;
        }
        if (field < 0 || field >= types.get(c).fields) {
            return OUTSIDE;
        }
        if (!things.isEmpty()) {
            return STATE;
        }
        types.get(c).begins.put(field, exp);
        return 1;
    }

    int method(int c, int name, boolean hidden, int result) {
        if (!known(c, types) || result != NONE && !known(result, exps)) {
            return UNKNOWN;
        }
        if (name < 0 || name > 3) {
            return OUTSIDE;
        }
        if (!things.isEmpty()) {
            return STATE;
        }
        Code code = new Code();
        code.hidden = hidden;
        code.result = result;
        types.get(c).methods.put(name, code);
        return 1;
    }

    int act(int c, int name, int sort, int n, int exp) {
        boolean named = name >= 0 && name <= 3;
        if (!known(c, types) || !known(exp, exps) || named && !types.get(c).methods.containsKey(name)) {
            return UNKNOWN;
        }
        if (sort < 0 || sort > 2 || name < -1 || name > 3 || sort == 0 && (n < 0 || n > 3)) {
            return OUTSIDE;
        }
        if (!things.isEmpty()) {
            return STATE;
        }
        Code code = named ? types.get(c).methods.get(name) : types.get(c).maker;
        if (code.acts.size() == 8) {
            return ROOM;
        }
        code.acts.add(new Act(sort, n, exp));
        return code.acts.size();
    }

    int make(int c, long given, long c0, long c1, long c2) {
        if (!known(c, types)) {
            return UNKNOWN;
        }
        if (things.size() == 100) {
            return ROOM;
        }
        restart();
        try {
            return build(c, given, new long[] {c0, c1, c2});
        } catch (Failure failure) {
            return -10 - failure.kind;
        }
    }

    int call(int object, int name, long given) {
        if (!known(object, things)) {
            return UNKNOWN;
        }
        if (name < 0 || name > 3) {
            return OUTSIDE;
        }
        if (things.get(object).state == 2) {
            return STATE;
        }
        restart();
        try {
            result = invoke(open(things.get(object).type, name), name, object, given);
            return 0;
        } catch (Failure failure) {
            return -10 - failure.kind;
        }
    }

    long result() {
        return result;
    }

    int told(int object, int what) {
        if (!known(object, things)) {
            return UNKNOWN;
        }
        return what == 0 ? things.get(object).type : what == 1 ? things.get(object).state : OUTSIDE;
    }

    long field(int object, int c, int k) {
        return known(object, things) ? things.get(object).slots.getOrDefault("field " + c + " " + k, 0L) : 0;
    }

    long capture(int object, int c, int k) {
        return known(object, things) ? things.get(object).slots.getOrDefault("capture " + c + " " + k, 0L) : 0;
    }

    int below(int c, int other) {
        if (!known(c, types) || !known(other, types)) {
            return UNKNOWN;
        }
        return c == other ? 1 : types.get(c).parent == NONE ? 0 : below(types.get(c).parent, other);
    }

    int finds(int c, int code, int name) {
        if (!known(c, types) || code != NONE && !known(code, types)) {
            return UNKNOWN;
        }
        if (name < 0 || name > 3 || code != NONE && below(c, code) == 0) {
            return OUTSIDE;
        }
        return found(c, code, name);
    }

    long logged(int i) {
        return known(i, log) ? log.get(i).number : 0;
    }

    int logOf(int i, int what) {
        return !known(i, log) ? NONE : what == 0 ? log.get(i).type : what == 1 ? log.get(i).thing : NONE;
    }

    int count(int what) {
        int[] all = {exps.size(), types.size(), things.size(), log.size(), begun, entered, ended, taken};
        return what < 0 || what > 7 ? OUTSIDE : all[what];
    }

    int clear() {
        int had = log.size();
        log.clear();
        return had;
    }

    private void restart() {
        begun = 0;
        entered = 0;
        ended = 0;
        taken = 0;
        failures = 0;
    }

    private int open(int from, int name) {
        if (from == NONE) {
            return NONE;
        }
        Code code = types.get(from).methods.get(name);
        return code != null && !code.hidden ? from : open(types.get(from).parent, name);
    }

    private int found(int own, int code, int name) {
        Code near = code == NONE ? null : types.get(code).methods.get(name);
        return near != null && near.hidden ? code : open(own, name);
    }

    private Failure failure(int kind) {
        failures++;
        return new Failure(failures >= 5 ? 8 : kind);
    }

    private void enter() throws Failure {
        if (depth == 12) {
            throw new Failure(8);
        }
        depth++;
        entered++;
    }

    private void leave() {
        depth--;
        ended++;
    }

    private int build(int c, long given, long[] captured) throws Failure {
        if (things.size() == 100) {
            throw new Failure(8);
        }
        Thing thing = new Thing();
        thing.type = c;
        things.add(thing);
        int number = things.size() - 1;
        maker(c, number, given, captured);
        thing.state = 1;
        return number;
    }

    private void maker(int c, int thing, long given, long[] captured) throws Failure {
        enter();
        try {
            Type type = types.get(c);
            long[] onward = new long[3];
            for (int k = 0; k < type.captures; k++) {
                things.get(thing).slots.put("capture " + c + " " + k, captured[k]);
                onward[k] = captured[k];
            }
            if (type.parent != NONE) {
                long passed = type.passed == null ? 0 : work(type.passed, c, thing, given);
                maker(type.parent, thing, passed, onward);
            }
            for (int k = 0; k < type.fields; k++) {
                int exp = type.begins.getOrDefault(k, NONE);
                if (exp != NONE) {
                    things.get(thing).slots.put("field " + c + " " + k, work(exp, c, thing, given));
                }
            }
            acts(type.maker, c, thing, given);
        } finally {
            leave();
        }
    }

    private long invoke(int home, int name, int thing, long given) throws Failure {
        if (home == NONE) {
            throw failure(1);
        }
        enter();
        try {
            Code code = types.get(home).methods.get(name);
            acts(code, home, thing, given);
            return code.result == NONE ? 0 : work(code.result, home, thing, given);
        } finally {
            leave();
        }
    }

    private void acts(Code code, int c, int thing, long given) throws Failure {
        for (Act act : code.acts) {
            long value = work(act.exp, c, thing, given);
            if (act.sort == 0) {
                if (act.n >= types.get(c).fields) {
                    throw failure(2);
                }
                things.get(thing).slots.put("field " + c + " " + act.n, value);
            } else if (act.sort == 1 && log.size() < 200) {
                log.add(new Logged(value, c, thing));
            }
        }
    }

    private long work(int number, int c, int thing, long given) throws Failure {
        if (begun == 300) {
            throw new Failure(8);
        }
        begun++;
        Exp exp = exps.get(number);
        int n = (int) exp.n;
        switch (exp.sort) {
            case 0: return exp.n;
            case 1: return given;
            case 2:
                if (n >= types.get(c).captures) {
                    throw failure(2);
                }
                return capture(thing, c, n);
            case 3:
                if (n >= types.get(c).fields) {
                    throw failure(2);
                }
                return field(thing, c, n);
            case 7: {
                long handed = work(exp.a, c, thing, given);
                return invoke(found(things.get(thing).type, c, n), n, thing, handed);
            }
            case 8: {
                long handed = work(exp.a, c, thing, given);
                return invoke(open(types.get(c).parent, n), n, thing, handed);
            }
            case 10:
                try {
                    return work(exp.a, c, thing, given);
                } catch (Failure failure) {
                    if (failure.kind == 8) {
                        throw failure;
                    }
                    taken++;
                }
                return work(exp.b, c, thing, given);
            default:
                return workTwo(exp, c, thing, given);
        }
    }

    private long workTwo(Exp exp, int c, int thing, long given) throws Failure {
        long left = work(exp.a, c, thing, given);
        long right = work(exp.b, c, thing, given);
        switch (exp.sort) {
            case 4: return left + right;
            case 5: return left - right;
            case 6:
                if (right == 0) {
                    throw failure(3);
                }
                return left / right;
            default: {
                int made = build((int) exp.n, left, new long[] {right, 0, 0});
                return field(made, (int) exp.n, 0);
            }
        }
    }
}
