import java.util.Random;

/** Runs of drawn calls, each answered by MakerOrders and by Model; the seeds are fixed. */
public final class ModelTest {
    private static final int RUNS = 20_000;
    /** The document promises nothing of an object beyond these. */
    private static final int CALLS = 512;
    /** Calls at the end of a run that only ask what is left. */
    private static final int ASKING = 150;
    /** Calls that one ask() makes. */
    private static final int ASKS = 8;
    private static final int[] ODD = {Integer.MIN_VALUE, -3, -2, -1, 4, 8, 11, 60, 100, 200, Integer.MAX_VALUE};
    private static final long[] LONGS = {0, 0, 1, 1, 2, -1, 5, 7, Long.MIN_VALUE, Long.MAX_VALUE, 1L << 32};
    /** Answers of make() and call() that the runs must bring about, lest they prove little. */
    private static final int[] WANTED = {0, -2, -3, -4, -5, -11, -12, -13, -18};

    private final Random random;
    private final MakerOrders x = new MakerOrders();
    private final Model model = new Model();
    private final int wildness;
    private final boolean[] seen;
    private String told = "";
    private boolean wrong;
    private int used;

    private ModelTest(long seed, boolean[] seen) {
        this.random = new Random(seed);
        this.wildness = random.nextInt(3) == 0 ? 4 : 40;
        this.seen = seen;
    }

    public static void main(String[] args) {
        boolean[] seen = new boolean[20];
        int failed = 0;
        for (int seed = 0; seed < RUNS && failed < 5; seed++) {
            ModelTest run = new ModelTest(seed, seen);
            if (!run.runs()) {
                failed++;
                System.out.println("seed " + seed + ": " + run.told);
            }
        }
        for (int answer : WANTED) {
            if (!seen[-answer]) {
                failed++;
                System.out.println("no make() or call() answered " + answer);
            }
        }
        System.out.println(RUNS + " runs, " + failed + " wrong");
        if (failed != 0) {
            System.exit(1);
        }
    }

    private boolean runs() {
        int planned = 40 + random.nextInt(160);
        while (used < CALLS - ASKING && !wrong) {
            if (used < planned || random.nextInt(20) == 0) {
                plan(used);
            } else {
                run();
            }
        }
        while (used <= CALLS - ASKS && !wrong) {
            ask();
        }
        return !wrong;
    }

    /** Told of every call on the object, once. */
    private void same(String call, long got, long want) {
        used++;
        if (used > CALLS) {
            throw new IllegalStateException("more than " + CALLS + " calls on one object");
        }
        if (got != want && !wrong) {
            wrong = true;
            told = call + " answered " + got + ", the model " + want;
        }
    }

    /** Mostly a number below the bound, now and then one of the odd ones. */
    private int pick(int bound) {
        if (bound <= 0 || random.nextInt(wildness) == 0) {
            return ODD[random.nextInt(ODD.length)];
        }
        return random.nextInt(bound);
    }

    private int pickOrNone(int bound) {
        return random.nextInt(5) == 0 ? -1 : pick(bound);
    }

    private long pickLong() {
        return LONGS[random.nextInt(LONGS.length)];
    }

    private void plan(int i) {
        int draw = i < 3 ? 0 : i < 12 ? 3 : random.nextInt(24);
        int exps = model.count(0);
        int types = model.count(1);
        if (draw < 2) {
            int parent = types == 0 ? -1 : pickOrNone(types);
            int captures = pick(4);
            int fields = pick(5);
            same("type", x.type(parent, captures, fields), model.type(parent, captures, fields));
        } else if (draw < 10) {
            planExp(exps, types);
        } else if (draw < 12) {
            int c = pick(types);
            int exp = pick(exps);
            same("passed", x.passed(c, exp), model.passed(c, exp));
        } else if (draw < 15) {
            int c = pick(types);
            int field = pick(3);
            int exp = pickOrNone(exps);
            same("begins", x.begins(c, field, exp), model.begins(c, field, exp));
        } else if (draw < 18) {
            int c = pick(types);
            int name = pick(4);
            boolean hidden = random.nextInt(3) == 0;
            int result = pickOrNone(exps);
            same("method", x.method(c, name, hidden, result), model.method(c, name, hidden, result));
        } else {
            int c = pick(types);
            int name = pickOrNone(4);
            int sort = pick(3);
            int n = pick(3);
            int exp = pick(exps);
            same("act", x.act(c, name, sort, n, exp), model.act(c, name, sort, n, exp));
        }
    }

    private void planExp(int exps, int types) {
        int sort = pick(11);
        long n = sort == 0 ? pickLong() : sort == 9 ? pick(types) : pick(sort == 2 || sort == 3 ? 3 : 4);
        if (random.nextInt(40) == 0) {
            n = pickLong();
        }
        int a = pick(exps);
        int b = pick(exps);
        same("exp", x.exp(sort, n, a, b), model.exp(sort, n, a, b));
    }

    private void run() {
        int draw = random.nextInt(14);
        if (draw < 3) {
            int c = pick(model.count(1));
            long given = pickLong();
            long c0 = pickLong();
            int answer = x.make(c, given, c0, 2, 3);
            same("make", answer, model.make(c, given, c0, 2, 3));
            note(answer);
            compareCounts();
        } else if (draw < 12) {
            int object = pick(model.count(2));
            int name = pick(4);
            long given = pickLong();
            int answer = x.call(object, name, given);
            same("call", answer, model.call(object, name, given));
            note(answer);
            same("result", x.result(), model.result());
            compareCounts();
        } else if (draw == 12 && random.nextInt(4) == 0) {
            same("clear", x.clear(), model.clear());
        } else if (draw == 13) {
            ask();
        }
    }

    private void note(int answer) {
        if (answer <= 0 && answer > -20) {
            seen[-answer] = true;
        }
    }

    /** As many calls as ASKS tells. */
    private void ask() {
        int types = model.count(1);
        int object = pick(model.count(2));
        int c = pick(types);
        int other = pickOrNone(types);
        int k = pick(4);
        int i = pick(random.nextInt(3) == 0 ? 200 : model.count(3));
        same("told", x.told(object, k), model.told(object, k));
        same("field", x.field(object, c, k), model.field(object, c, k));
        same("capture", x.capture(object, c, k), model.capture(object, c, k));
        same("below", x.below(c, other), model.below(c, other));
        same("finds", x.finds(c, other, k), model.finds(c, other, k));
        same("logged", x.logged(i), model.logged(i));
        same("logOf", x.logOf(i, k), model.logOf(i, k));
        same("count", x.count(k), model.count(k));
    }

    private void compareCounts() {
        for (int what = 2; what <= 7; what++) {
            same("count(" + what + ")", x.count(what), model.count(what));
        }
    }
}
