import java.util.NoSuchElementException;

/** What the tests by hand share: a test extends this, tells what is due, and ends with finish. */
abstract class Checks {
    static final Class<?> NUMBER = IndexOutOfBoundsException.class;
    static final Class<?> MISSING = NoSuchElementException.class;
    static final Class<?> ARGUMENT = IllegalArgumentException.class;
    static final Class<?> STATE = IllegalStateException.class;
    static final int MOST = 1000000000;

    private static int wrong = 0;

    interface Call {
        void run();
    }

    interface CallWith {
        void run(int value);
    }

    interface AnswerTo {
        long to(int value);
    }

    static void due(String what, long want, long got) {
        if (got != want) {
            tell(what + " answered " + got + ", due is " + want);
        }
    }

    static void due(String what, boolean want, boolean got) {
        due(what, want ? 1 : 0, got ? 1 : 0);
    }

    static Class<?> thrownBy(Call call) {
        try {
            call.run();
        } catch (RuntimeException e) {
            return e.getClass();
        }
        return null;
    }

    /** The very class is due, no class above or below it; null if nothing is to be thrown. */
    static void thrown(String what, Class<?> want, Call call) {
        Class<?> got = thrownBy(call);
        if (got != want) {
            tell(what + " threw " + got + ", due is " + want);
        }
    }

    /** Takes what is just inside both bounds and throws just outside them, and far outside. */
    static void takes(String what, int least, int most, Class<?> outside, CallWith call) {
        for (int value : new int[] {least, most, Math.min(least + 1, most), Math.max(most - 1, least)}) {
            thrown(what + " " + value, null, () -> call.run(value));
        }
        for (int value : outsideOf(least, most)) {
            thrown(what + " " + value, outside, () -> call.run(value));
        }
    }

    /** Answers something just inside both bounds, and NONE just outside them, and far outside. */
    static void answers(String what, int least, int most, AnswerTo answer) {
        for (int value : new int[] {least, most, Math.min(least + 1, most), Math.max(most - 1, least)}) {
            if (answer.to(value) == -1) {
                tell(what + " " + value + " answered NONE");
            }
        }
        for (int value : outsideOf(least, most)) {
            due(what + " " + value, -1, answer.to(value));
        }
    }

    static int[] outsideOf(int least, int most) {
        return new int[] {least - 1, most + 1, Integer.MIN_VALUE, Integer.MAX_VALUE};
    }

    static void tell(String fault) {
        wrong++;
        if (wrong < 50) {
            System.out.println(fault);
        }
    }

    static void finish(String fine) {
        System.out.println(wrong == 0 ? fine : wrong + " answers are not as due");
        if (wrong != 0) {
            System.exit(1);
        }
    }
}
