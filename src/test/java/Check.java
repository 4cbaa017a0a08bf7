/** Counts the answers of a test and tells the wrong ones. */
final class Check {
    private int asked;
    private int wrong;

    void due(String call, long got, long want) {
        asked++;
        if (got != want) {
            wrong++;
            System.out.println(call + " answered " + got + ", due is " + want);
        }
    }

    /** Counts 0 to 7 of an object, in their order. */
    void counts(String when, MakerOrders x, int... want) {
        for (int what = 0; what < want.length; what++) {
            due(when + ": count(" + what + ")", x.count(what), want[what]);
        }
    }

    /** The whole LOG: numbers, CLASSES and OBJECTS by threes. */
    void log(String when, MakerOrders x, long... want) {
        due(when + ": count(3)", x.count(3), want.length / 3);
        for (int i = 0; i < want.length / 3; i++) {
            due(when + ": logged(" + i + ")", x.logged(i), want[3 * i]);
            due(when + ": logOf(" + i + ", 0)", x.logOf(i, 0), want[3 * i + 1]);
            due(when + ": logOf(" + i + ", 1)", x.logOf(i, 1), want[3 * i + 2]);
        }
    }

    void end() {
        System.out.println(asked + " answers, " + wrong + " wrong");
        if (wrong != 0 || asked == 0) {
            System.exit(1);
        }
    }
}
