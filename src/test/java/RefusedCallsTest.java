import java.util.Arrays;

/**
 * The calls that are refused, with every mixture of arguments that are fine and that are not: of all exceptions
 * that are due the first one in the document's order is thrown, and all that can be asked stays as it was.
 */
public final class RefusedCallsTest extends Checks {
    private static final Class<?>[] ORDER = {null, NUMBER, MISSING, ARGUMENT, STATE};
    private static final int FINE = 0;
    private static final int NO_NUMBER = 1;
    private static final int NOT_THERE = 2;
    private static final int NOT_AS_TOLD = 3;
    private static final int NOT_NOW = 4;

    private interface Attempt {
        void on(RiverDesk x, int[] arguments);
    }

    /** Day 1 of a river with an outlet 0, then 1, then 2 and 3, and 31 above 3, where much is going on. */
    private static RiverDesk busy() {
        RiverDesk x = new RiverDesk();
        x.reach(0, -1);
        x.reach(1, 0);
        x.reach(2, 1);
        x.reach(3, 1);
        x.reach(31, 3);
        x.reservoir(0, 2, 100);
        x.reservoir(7, 0, 0);
        x.right(0, 2, 10, 50, 250, 1);
        x.storage(1, 2, 20, 200, 0);
        x.right(39, 31, 1000000, 1000, 1000, 0);
        x.inflow(2, 130);
        x.close();
        x.want(0, 20);
        x.inflow(2, 60);
        x.inflow(31, 7);
        x.release(0, 10, 1);
        return x;
    }

    private static final class Asked {
        private final RiverDesk x;
        private final long[] answers = new long[400];
        private int count;

        Asked(RiverDesk x) {
            this.x = x;
        }

        private void put(long answer) {
            answers[count] = answer;
            count++;
        }

        private void putFlow(int reach, int what) {
            Class<?> missing = thrownBy(() -> put(x.flow(reach, what)));
            if (missing != null) {
                put(Long.MIN_VALUE);
            }
        }

        private void today() {
            for (int reach = 0; reach < 32; reach++) {
                putFlow(reach, 0);
                putFlow(reach, 1);
            }
            put(x.plan());
            for (int right : new int[] {0, 1, 39}) {
                put(x.given(right));
                put(x.call(right));
                put(x.futile(0, right) ? 1 : 0);
            }
            for (int k = 0; k < 5; k++) {
                put(x.aged(k));
            }
        }

        private void kept() {
            for (int what = 0; what < 5; what++) {
                for (int right = 0; right < 40; right++) {
                    put(x.about(right, what));
                }
                for (int day = 0; day < 3; day++) {
                    put(x.book(day, what));
                }
            }
            reservoirs();
        }

        private void reservoirs() {
            for (int reservoir = 0; reservoir < 8; reservoir++) {
                for (int what = 0; what < 3; what++) {
                    put(x.held(reservoir, what));
                }
            }
        }

        private void nextDay() {
            put(x.close());
            for (int what = 0; what < 5; what++) {
                put(x.book(1, what));
            }
            reservoirs();
            put(x.flow(0, 0));
            put(x.flow(1, 1));
        }

        long[] all() {
            today();
            kept();
            nextDay();
            return Arrays.copyOf(answers, count);
        }
    }

    private static final long[] UNTOUCHED = new Asked(busy()).all();

    /** Tries each mixture; an option is a value, and the place in the order of what is due for it. */
    private static void tryAll(String name, Attempt attempt, int[][]... options) {
        int mixtures = 1;
        for (int[][] ofOne : options) {
            mixtures *= ofOne.length;
        }
        for (int mixture = 0; mixture < mixtures; mixture++) {
            int[] arguments = new int[options.length];
            int first = FINE;
            int rest = mixture;
            for (int i = 0; i < options.length; i++) {
                int[] option = options[i][rest % options[i].length];
                rest /= options[i].length;
                arguments[i] = option[0];
                first = first == FINE || option[1] != FINE && option[1] < first ? option[1] : first;
            }
            tryOne(name + Arrays.toString(arguments), attempt, arguments, first);
        }
    }

    private static void tryOne(String what, Attempt attempt, int[] arguments, int first) {
        RiverDesk x = busy();
        thrown(what, ORDER[first], () -> attempt.on(x, arguments));
        if (first != FINE && !Arrays.equals(UNTOUCHED, new Asked(x).all())) {
            tell(what + " was refused, but changed something");
        }
    }

    private static final int[][] REACHES = {{2, FINE}, {9, NOT_THERE}, {-1, NO_NUMBER}, {32, NO_NUMBER}};
    private static final int[][] PLACES_BELOW_2 =
            {{2, FINE}, {0, FINE}, {3, NOT_AS_TOLD}, {31, NOT_AS_TOLD}, {9, NOT_THERE}, {-1, NO_NUMBER}, {32, NO_NUMBER}};
    private static final int[][] NEW_RIGHTS = {{5, FINE}, {0, NOT_NOW}, {1, NOT_NOW}, {-1, NO_NUMBER}, {40, NO_NUMBER}};
    private static final int[][] RIGHTS =
            {{0, FINE}, {1, FINE}, {39, FINE}, {5, NOT_THERE}, {38, NOT_THERE}, {-1, NO_NUMBER}, {40, NO_NUMBER}};
    private static final int[][] NEW_PRIORITIES =
            {{1, FINE}, {10, NOT_NOW}, {1000000, NOT_NOW}, {0, NOT_AS_TOLD}, {1000001, NOT_AS_TOLD}};
    private static final int[][] AMOUNTS = {{0, FINE}, {MOST, FINE}, {-1, NOT_AS_TOLD}, {MOST + 1, NOT_AS_TOLD}};
    private static final int[][] SHARES = {{0, FINE}, {1000, FINE}, {-1, NOT_AS_TOLD}, {1001, NOT_AS_TOLD}};

    private static void makingCalls() {
        tryAll("2: reach", (x, a) -> x.reach(a[0], a[1]),
                new int[][] {{5, FINE}, {30, FINE}, {0, NOT_NOW}, {1, NOT_NOW}, {-1, NO_NUMBER}, {32, NO_NUMBER}},
                new int[][] {{0, FINE}, {31, FINE}, {-1, NOT_NOW}, {9, NOT_THERE}, {-2, NO_NUMBER}, {32, NO_NUMBER}});
        tryAll("3: reservoir", (x, a) -> x.reservoir(a[0], a[1], a[2]),
                new int[][] {{4, FINE}, {0, NOT_NOW}, {7, NOT_NOW}, {-1, NO_NUMBER}, {8, NO_NUMBER}}, REACHES, AMOUNTS);
        tryAll("4: right", (x, a) -> x.right(a[0], a[1], a[2], a[3], a[4], a[5]),
                NEW_RIGHTS, REACHES, NEW_PRIORITIES, AMOUNTS, SHARES, PLACES_BELOW_2);
        tryAll("5: storage", (x, a) -> x.storage(a[0], a[1], a[2], a[3], a[4]),
                NEW_RIGHTS, REACHES, NEW_PRIORITIES, AMOUNTS,
                new int[][] {{0, FINE}, {7, FINE}, {1, NOT_THERE}, {-1, NO_NUMBER}, {8, NO_NUMBER}});
    }

    private static void dailyCalls() {
        tryAll("6: drop", (x, a) -> x.drop(a[0]), RIGHTS);
        tryAll("7: want", (x, a) -> x.want(a[0], a[1]), RIGHTS,
                new int[][] {{0, FINE}, {50, FINE}, {-1, NOT_AS_TOLD}, {1001, NOT_AS_TOLD}});
        tryAll("8: inflow", (x, a) -> x.inflow(a[0], a[1]), REACHES, AMOUNTS);
        tryAll("9: release", (x, a) -> x.release(a[0], a[1], a[2]),
                new int[][] {{0, FINE}, {1, NOT_THERE}, {-1, NO_NUMBER}, {8, NO_NUMBER}},
                new int[][] {{0, FINE}, {70, FINE}, {71, NOT_NOW}, {Integer.MAX_VALUE, NOT_NOW}, {-1, NOT_AS_TOLD}},
                PLACES_BELOW_2);
    }

    private static void askingCalls() {
        tryAll("11: given", (x, a) -> x.given(a[0]), RIGHTS);
        tryAll("12: flow", (x, a) -> x.flow(a[0], a[1]), REACHES,
                new int[][] {{0, FINE}, {1, FINE}, {2, FINE}, {-1, FINE}});
        tryAll("13: call", (x, a) -> x.call(a[0]), RIGHTS);
        tryAll("14: futile", (x, a) -> x.futile(a[0], a[1]), RIGHTS, RIGHTS);
    }

    /** Asking, too, changes nothing, whatever is asked. */
    private static void askingLeavesAllAsItWas() {
        for (int i = -1; i <= 40; i++) {
            int number = i;
            RiverDesk x = busy();
            thrown("16 to 19: asking throws nothing", null, () -> {
                x.held(number, 0);
                x.book(number, 0);
                x.about(number, 0);
                x.aged(number);
            });
            x.plan();
            for (int right : new int[] {0, 1, 39}) {
                x.given(right);
                x.call(right);
                x.futile(right, 1);
                x.flow(right == 39 ? 31 : right, 0);
            }
            if (!Arrays.equals(UNTOUCHED, new Asked(x).all())) {
                tell("asking about " + number + " changed something");
            }
        }
    }

    private static void withNothingThere() {
        RiverDesk x = new RiverDesk();
        thrown("2: no reach below", MISSING, () -> x.reach(0, 1));
        thrown("2: below itself", MISSING, () -> x.reach(0, 0));
        thrown("3: no reach", MISSING, () -> x.reservoir(0, 0, -1));
        thrown("4: no reach", MISSING, () -> x.right(0, 0, 0, -1, -1, 0));
        thrown("5: no reach", MISSING, () -> x.storage(0, 0, 0, -1, 0));
        thrown("6: no right", MISSING, () -> x.drop(0));
        thrown("7: no right", MISSING, () -> x.want(0, -1));
        thrown("8: no reach", MISSING, () -> x.inflow(0, -1));
        thrown("9: no reservoir", MISSING, () -> x.release(0, -1, 0));
        thrown("11: no right", MISSING, () -> x.given(0));
        thrown("12: no reach", MISSING, () -> x.flow(0, 2));
        thrown("13: no right", MISSING, () -> x.call(0));
        thrown("14: no right", MISSING, () -> x.futile(0, 0));
        thrown("2: the outlet, after all that", null, () -> x.reach(0, -1));
        thrown("5: no reservoir", MISSING, () -> x.storage(0, 0, 0, -1, 0));
        thrown("9: no reservoir", MISSING, () -> x.release(0, -1, 0));
    }

    public static void main(String[] args) {
        makingCalls();
        dailyCalls();
        askingCalls();
        askingLeavesAllAsItWas();
        withNothingThere();
        finish("all refused calls are as due");
    }
}
