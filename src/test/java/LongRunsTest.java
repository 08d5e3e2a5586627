import java.util.NoSuchElementException;
import java.util.TreeMap;

/**
 * Runs of 512 random calls, right and wrong ones, each compared with a plain model of the document, which finds
 * THE plan by halving on its words alone (a plan with more for a right holds only if one with less does).
 */
public final class LongRunsTest {
    private static final int RUNS = 300;
    private static final int CALLS = 512;
    private static final int MOST = 1000000000;
    private static final int[] AMOUNTS = {0, 1, 2, 3, 7, 50, 999, 1000, 1001, 123457, 99999999, MOST - 1, MOST};
    private static final int[] SHARES = {0, 1, 250, 333, 500, 667, 900, 999, 1000};

    private static long seed = 7;
    private static int wrong = 0;

    private static final class Reservoir {
        int reach;
        int capacity;
        int held;
    }

    private static final class Right {
        int number;
        int reach;
        int rate;
        int wants;
        int share;
        int returns;
        int reservoir;
        int amount;
    }

    private static final class Model {
        final Integer[] below = new Integer[32];
        final int[] inflow = new int[32];
        final long[] released = new long[32];
        final Reservoir[] reservoirs = new Reservoir[8];
        final TreeMap<Integer, Right> byPriority = new TreeMap<>();
        final TreeMap<Integer, long[]> books = new TreeMap<>();
        long releasedToday;
        int day;

        boolean onPath(int reach, int from) {
            for (int at = from; at >= 0; at = below[at]) {
                if (at == reach) {
                    return true;
                }
            }
            return false;
        }

        Right find(int number) {
            for (Right right : byPriority.values()) {
                if (right.number == number) {
                    return right;
                }
            }
            return null;
        }

        int priorityOf(int number) {
            for (int priority : byPriority.keySet()) {
                if (byPriority.get(priority).number == number) {
                    return priority;
                }
            }
            return -1;
        }

        static long comesBack(Right right) {
            return right.reservoir >= 0 ? 0 : (long) right.amount * right.share / 1000;
        }

        /** The natural flow by what is diverted and comes back at each reach, all of it carried down. */
        long[] flows() {
            long[] own = new long[32];
            for (int reach = 0; reach < 32; reach++) {
                own[reach] = inflow[reach];
            }
            for (Right right : byPriority.values()) {
                own[right.reach] -= right.amount;
                if (right.reservoir < 0) {
                    own[right.returns] += comesBack(right);
                }
            }
            long[] flows = new long[32];
            for (int reach = 0; reach < 32; reach++) {
                for (int at = below[reach] == null ? -1 : reach; at >= 0; at = below[at]) {
                    flows[at] += own[reach];
                }
            }
            return flows;
        }

        boolean holds() {
            long[] stored = new long[8];
            for (Right right : byPriority.values()) {
                if (right.reservoir >= 0) {
                    stored[right.reservoir] += right.amount;
                }
            }
            for (int i = 0; i < 8; i++) {
                if (reservoirs[i] != null && stored[i] > reservoirs[i].capacity - reservoirs[i].held) {
                    return false;
                }
            }
            for (long flow : flows()) {
                if (flow < 0) {
                    return false;
                }
            }
            return true;
        }

        /** Sets the amounts of THE plan, or of the one in which a right gets just so much; null for none such. */
        int[] best(Right stopped, Right fixed, int amount) {
            for (Right right : byPriority.values()) {
                right.amount = right == fixed ? amount : 0;
            }
            if (!holds()) {
                return null;
            }
            for (Right right : byPriority.values()) {
                if (right != stopped && right != fixed) {
                    raise(right);
                }
            }
            int[] gets = new int[40];
            for (Right right : byPriority.values()) {
                gets[right.number] = right.amount;
            }
            return gets;
        }

        void raise(Right right) {
            int low = 0;
            int high = right.wants;
            while (low < high) {
                right.amount = low + (high - low + 1) / 2;
                if (holds()) {
                    low = right.amount;
                } else {
                    high = right.amount - 1;
                }
            }
            right.amount = low;
        }

        int called(Right right) {
            int[] the = best(null, null, 0);
            if (the[right.number] >= right.wants) {
                return -1;
            }
            int[] other = best(null, right, the[right.number] + 1);
            for (Right older : byPriority.values()) {
                if (other != null && other[older.number] < the[older.number]) {
                    return older.number;
                }
            }
            return -1;
        }

        int close() {
            best(null, null, 0);
            long[] page = new long[5];
            for (int reach = 0; reach < 32; reach++) {
                page[0] += inflow[reach];
                page[1] += below[reach] != null && below[reach] == -1 ? flows()[reach] : 0;
            }
            page[2] = releasedToday;
            page[4] = releasedToday;
            for (Right right : byPriority.values()) {
                page[right.reservoir >= 0 ? 3 : 2] += right.amount - comesBack(right);
                if (right.reservoir >= 0) {
                    reservoirs[right.reservoir].held += right.amount;
                }
                right.wants = right.rate;
            }
            if (page[0] + page[4] != page[1] + page[2] + page[3]) {
                throw new AssertionError("the model's books do not balance");
            }
            for (int reach = 0; reach < 32; reach++) {
                inflow[reach] = 0;
                released[reach] = 0;
            }
            releasedToday = 0;
            books.put(day, page);
            day++;
            return day;
        }
    }

    private static int below(int bound) {
        seed = seed * 6364136223846793005L + 1442695040888963407L;
        return (int) ((seed >>> 33) % bound);
    }

    private static int number(int bound) {
        return below(40) == 0 ? (below(2) == 0 ? -1 - below(2) : bound + below(2)) : below(bound);
    }

    private static int near(int least, int most) {
        int kind = below(30);
        return kind == 0 ? least - 1 : kind == 1 ? most + 1 : kind == 2 ? least : kind == 3 ? most
                : least + below(most - least + 1);
    }

    private static int amount() {
        int kind = below(40);
        return kind == 0 ? -1 : kind == 1 ? MOST + 1 : kind < 8 ? below(MOST) : kind < 20 ? below(3000)
                : AMOUNTS[below(AMOUNTS.length)];
    }

    private static boolean out(int number, int bound) {
        return number < 0 || number >= bound;
    }

    private static final int NUMBER = -101;
    private static final int MISSING = -102;
    private static final int ARGUMENT = -103;
    private static final int STATE = -104;

    private static long first(boolean number, boolean missing, boolean argument, boolean state) {
        return number ? NUMBER : missing ? MISSING : argument ? ARGUMENT : state ? STATE : 0;
    }

    private interface Call {
        long run();
    }

    private static void compare(String what, long want, Call call) {
        long got;
        try {
            got = call.run();
        } catch (IndexOutOfBoundsException e) {
            got = NUMBER;
        } catch (NoSuchElementException e) {
            got = MISSING;
        } catch (IllegalArgumentException e) {
            got = ARGUMENT;
        } catch (IllegalStateException e) {
            got = STATE;
        }
        if (got != want) {
            wrong++;
            if (wrong < 20) {
                System.out.println(what + " answered " + got + ", due is " + want + " (-101 to -104: exceptions)");
            }
        }
    }

    private final RiverDesk desk = new RiverDesk();
    private final Model model = new Model();
    private final int rightNumbers = 3 + below(38);
    private final int reachNumbers = 1 + below(32);
    private final int closing = 1 + below(4);

    private boolean noReach(int reach) {
        return !out(reach, 32) && model.below[reach] == null;
    }

    private boolean noReservoir(int reservoir) {
        return !out(reservoir, 8) && model.reservoirs[reservoir] == null;
    }

    private boolean apart(int from, int to) {
        return !out(from, 32) && !out(to, 32) && !noReach(from) && !noReach(to) && !model.onPath(to, from);
    }

    private int anyReach() {
        return below(8) == 0 ? number(32) : number(reachNumbers);
    }

    private int anyRight() {
        return below(8) == 0 ? number(40) : number(rightNumbers);
    }

    /** Mostly a reach that is there, so that calls seldom end at a missing one. */
    private int knownReach() {
        int reach = anyReach();
        for (int more = 0; more < 40 && noReach(reach) && below(40) > 0; more++) {
            reach = anyReach();
        }
        return reach;
    }

    private int knownRight() {
        Object[] all = model.byPriority.values().toArray();
        return all.length == 0 || below(15) == 0 ? anyRight() : ((Right) all[below(all.length)]).number;
    }

    private int knownReservoir() {
        int reservoir = number(8);
        for (int more = 0; more < 40 && noReservoir(reservoir) && below(40) > 0; more++) {
            reservoir = number(8);
        }
        return reservoir;
    }

    private int aReachBelow(int reach) {
        int at = reach;
        for (int steps = below(5); steps > 0 && !out(at, 32) && !noReach(at) && model.below[at] >= 0; steps--) {
            at = model.below[at];
        }
        return below(6) == 0 ? anyReach() : at;
    }

    private void callReach(String at) {
        int reach = anyReach();
        int downstream = below(6) == 0 ? -1 : knownReach();
        boolean outlet = false;
        for (Integer below : model.below) {
            outlet = outlet || below != null && below == -1;
        }
        long due = first(out(reach, 32) || downstream != -1 && out(downstream, 32), noReach(downstream), false,
                !noReach(reach) || downstream == -1 && outlet);
        compare(at + "reach(" + reach + ", " + downstream + ")", due, () -> {
            desk.reach(reach, downstream);
            return 0;
        });
        if (due == 0) {
            model.below[reach] = downstream;
        }
    }

    private void callReservoir(String at) {
        int reservoir = number(8);
        int reach = knownReach();
        int capacity = amount();
        long due = first(out(reservoir, 8) || out(reach, 32), noReach(reach), capacity < 0 || capacity > MOST,
                !noReservoir(reservoir));
        compare(at + "reservoir(" + reservoir + ", " + reach + ", " + capacity + ")", due, () -> {
            desk.reservoir(reservoir, reach, capacity);
            return 0;
        });
        if (due == 0) {
            model.reservoirs[reservoir] = new Reservoir();
            model.reservoirs[reservoir].reach = reach;
            model.reservoirs[reservoir].capacity = capacity;
        }
    }

    private void callRight(String at) {
        int right = anyRight();
        int reach = knownReach();
        int priority = below(20) == 0 ? near(1, 1000000) : near(1, 60);
        int rate = amount();
        int share = below(2) == 0 ? SHARES[below(SHARES.length)] : near(0, 1000);
        int returns = aReachBelow(reach);
        long due = first(out(right, 40) || out(reach, 32) || out(returns, 32), noReach(reach) || noReach(returns),
                priority < 1 || priority > 1000000 || rate < 0 || rate > MOST || share < 0 || share > 1000
                        || apart(reach, returns),
                model.find(right) != null || model.byPriority.containsKey(priority));
        compare(at + "right(" + right + ", " + reach + ", " + priority + ", ..)", due, () -> {
            desk.right(right, reach, priority, rate, share, returns);
            return 0;
        });
        if (due == 0) {
            put(right, reach, priority, rate, -1);
            model.find(right).share = share;
            model.find(right).returns = returns;
        }
    }

    private void callStorage(String at) {
        int right = anyRight();
        int reach = knownReach();
        int priority = near(1, 60);
        int rate = amount();
        int reservoir = knownReservoir();
        long due = first(out(right, 40) || out(reach, 32) || out(reservoir, 8),
                noReach(reach) || noReservoir(reservoir),
                priority < 1 || priority > 1000000 || rate < 0 || rate > MOST,
                model.find(right) != null || model.byPriority.containsKey(priority));
        compare(at + "storage(" + right + ", " + reach + ", " + priority + ", ..)", due, () -> {
            desk.storage(right, reach, priority, rate, reservoir);
            return 0;
        });
        if (due == 0) {
            put(right, reach, priority, rate, reservoir);
        }
    }

    private void put(int number, int reach, int priority, int rate, int reservoir) {
        Right right = new Right();
        right.number = number;
        right.reach = reach;
        right.rate = rate;
        right.wants = rate;
        right.share = -1;
        right.reservoir = reservoir;
        model.byPriority.put(priority, right);
    }

    private void callDrop(String at) {
        int right = knownRight();
        long due = first(out(right, 40), model.find(right) == null, false, false);
        compare(at + "drop(" + right + ")", due, () -> {
            desk.drop(right);
            return 0;
        });
        if (due == 0) {
            model.byPriority.remove(model.priorityOf(right));
        }
    }

    private void callWant(String at) {
        int number = knownRight();
        Right right = model.find(number);
        int amount = right == null ? amount() : right.rate > 0 && below(2) == 0 ? below(right.rate) : amount();
        long due = first(out(number, 40), right == null, amount < 0 || right != null && amount > right.rate, false);
        compare(at + "want(" + number + ", " + amount + ")", due, () -> {
            desk.want(number, amount);
            return 0;
        });
        if (due == 0) {
            right.wants = amount;
        }
    }

    private void callInflow(String at) {
        int reach = knownReach();
        int amount = amount();
        long due = first(out(reach, 32), noReach(reach), amount < 0 || amount > MOST, false);
        compare(at + "inflow(" + reach + ", " + amount + ")", due, () -> {
            desk.inflow(reach, amount);
            return 0;
        });
        if (due == 0) {
            model.inflow[reach] = amount;
        }
    }

    private void callRelease(String at) {
        int number = knownReservoir();
        Reservoir reservoir = out(number, 8) ? null : model.reservoirs[number];
        int to = reservoir == null ? anyReach() : aReachBelow(reservoir.reach);
        int amount = reservoir != null && reservoir.held > 0 && below(3) > 0 ? below(reservoir.held + 2) : amount();
        long due = first(out(number, 8) || out(to, 32), noReservoir(number) || noReach(to),
                amount < 0 || reservoir != null && apart(reservoir.reach, to),
                reservoir != null && reservoir.held < amount);
        if (due == 0) {
            reservoir.held -= amount;
            model.releasedToday += amount;
            for (int reach = 0; reach < 32; reach++) {
                if (!noReach(reach) && model.onPath(reach, reservoir.reach) && model.onPath(to, reach)) {
                    model.released[reach] += amount;
                }
            }
        }
        compare(at + "release(" + number + ", " + amount + ", " + to + ")", due == 0 ? reservoir.held : due,
                () -> desk.release(number, amount, to));
    }

    private void callClose(String at) {
        compare(at + "close()", model.close(), () -> desk.close());
    }

    private void askPlan(String at) {
        model.best(null, null, 0);
        long shorts = 0;
        for (Right right : model.byPriority.values()) {
            shorts += right.amount < right.wants ? 1 : 0;
        }
        compare(at + "plan()", shorts, () -> desk.plan());
    }

    private void askGiven(String at) {
        int right = knownRight();
        long due = first(out(right, 40), model.find(right) == null, false, false);
        compare(at + "given(" + right + ")", due != 0 ? due : model.best(null, null, 0)[right],
                () -> desk.given(right));
    }

    private void askFlow(String at) {
        int reach = knownReach();
        int what = near(0, 1);
        long due = first(out(reach, 32), noReach(reach), false, false);
        if (due == 0 && what == 0) {
            model.best(null, null, 0);
        }
        long flow = due != 0 ? due : what == 0 ? model.flows()[reach] : what == 1 ? model.released[reach] : -1;
        compare(at + "flow(" + reach + ", " + what + ")", flow, () -> desk.flow(reach, what));
    }

    private void askCall(String at) {
        int right = knownRight();
        long due = first(out(right, 40), model.find(right) == null, false, false);
        compare(at + "call(" + right + ")", due != 0 ? due : model.called(model.find(right)),
                () -> desk.call(right));
    }

    private void askFutile(String at) {
        int s = knownRight();
        int j = knownRight();
        long due = first(out(s, 40) || out(j, 40), model.find(s) == null || model.find(j) == null, false, false);
        if (due == 0) {
            due = model.best(null, null, 0)[j] == model.best(model.find(s), null, 0)[j] ? 1 : 0;
        }
        compare(at + "futile(" + s + ", " + j + ")", due, () -> desk.futile(s, j) ? 1 : 0);
    }

    private void askHeld(String at) {
        int number = knownReservoir();
        int what = near(0, 2);
        Reservoir of = out(number, 8) ? null : model.reservoirs[number];
        long due = of == null ? -1 : what == 0 ? of.held : what == 1 ? of.capacity : what == 2 ? of.reach : -1;
        compare(at + "held(" + number + ", " + what + ")", due, () -> desk.held(number, what));
    }

    private void askBook(String at) {
        int day = below(3) == 0 ? model.day - 65 + below(67) : model.day - 1 - below(5);
        int what = near(0, 4);
        long[] page = day < model.day - 60 ? null : model.books.get(day);
        compare(at + "book(" + day + ", " + what + ")", page == null || out(what, 5) ? -1 : page[what],
                () -> desk.book(day, what));
    }

    private void askAbout(String at) {
        int number = knownRight();
        int what = near(0, 4);
        Right of = model.find(number);
        long due = of == null || out(what, 5) ? -1
                : new long[] {model.priorityOf(number), of.rate, of.wants, of.share, of.reservoir}[what];
        compare(at + "about(" + number + ", " + what + ")", due, () -> desk.about(number, what));
    }

    private void askAged(String at) {
        Right[] all = model.byPriority.values().toArray(new Right[0]);
        int k = number(all.length + 1);
        compare(at + "aged(" + k + ")", out(k, all.length) ? -1 : all[k].number, () -> desk.aged(k));
    }

    private void anyCall(String at, int kind) {
        switch (kind) {
            case 0: callReservoir(at); break;
            case 1: case 2: callRight(at); break;
            case 3: callStorage(at); break;
            case 4: if (below(4) == 0) callDrop(at); else callReach(at); break;
            case 5: callWant(at); break;
            case 6: case 7: case 8: callInflow(at); break;
            case 9: callRelease(at); break;
            case 10: askPlan(at); break;
            case 11: askGiven(at); break;
            case 12: askFlow(at); break;
            case 13: askCall(at); break;
            case 14: askFutile(at); break;
            case 15: askHeld(at); break;
            case 16: askBook(at); break;
            case 17: askAbout(at); break;
            case 18: askAged(at); break;
            default: if (below(closing) == 0) callClose(at); else callInflow(at); break;
        }
    }

    public static void main(String[] args) {
        for (int run = 0; run < RUNS; run++) {
            LongRunsTest test = new LongRunsTest();
            for (int call = 0; call < CALLS; call++) {
                String at = "run " + run + ", call " + call + ": ";
                if (call < 60) {
                    test.callReach(at);
                } else {
                    test.anyCall(at, below(call < 150 ? 12 : 20));
                }
            }
        }
        System.out.println(wrong == 0 ? RUNS + " long runs are as due" : wrong + " answers are not as due");
        if (wrong != 0) {
            System.exit(1);
        }
    }
}
