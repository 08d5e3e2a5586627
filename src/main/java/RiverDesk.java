import java.util.Arrays;
import java.util.NoSuchElementException;

/**
 * A commissioner's desk for one river.
 *
 * No right ever helps another: whatever a right diverts, the natural flow of no reach rises by it and no room
 * in a reservoir grows. So THE plan is found by going from the oldest right to the youngest and giving each the
 * most that still holds, and a plan in which one right is fixed is found likewise, that right being served first.
 */
public final class RiverDesk {
    public static final int NONE = -1;

    private static final int REACHES = 32;
    private static final int RESERVOIRS = 8;
    private static final int RIGHTS = 40;
    private static final int MOST_WATER = 1000000000;
    private static final int LAST_PRIORITY = 1000000;
    private static final int WHOLE_SHARE = 1000;

    private final River river;
    private final Reservoirs reservoirs;
    private final Rights rights;
    private final Books books;
    private final Plan today;
    private final Plan supposed;
    private boolean todayIsStale;

    public RiverDesk() {
        river = new River();
        reservoirs = new Reservoirs();
        rights = new Rights();
        books = new Books();
        today = new Plan();
        supposed = new Plan();
        todayIsStale = true;
    }

    public void reach(int reach, int downstream)
            throws IndexOutOfBoundsException, NoSuchElementException, IllegalStateException {
        checkNumber(reach, REACHES);
        if (downstream != NONE) {
            checkNumber(downstream, REACHES);
            checkThere(river.there[downstream]);
        }
        checkFree(river.there[reach]);
        checkFree(downstream == NONE && river.outlet != NONE);
        river.add(reach, downstream);
        todayIsStale = true;
    }

    public void reservoir(int reservoir, int reach, int capacity)
            throws IndexOutOfBoundsException, NoSuchElementException, IllegalArgumentException, IllegalStateException {
        checkNumber(reservoir, RESERVOIRS);
        checkNumber(reach, REACHES);
        checkThere(river.there[reach]);
        checkBetween(capacity, 0, MOST_WATER);
        checkFree(reservoirs.there[reservoir]);
        reservoirs.add(reservoir, reach, capacity);
        todayIsStale = true;
    }

    public void right(int right, int reach, int priority, int rate, int share, int returns)
            throws IndexOutOfBoundsException, NoSuchElementException, IllegalArgumentException, IllegalStateException {
        checkNumber(right, RIGHTS);
        checkNumber(reach, REACHES);
        checkNumber(returns, REACHES);
        checkThere(river.there[reach]);
        checkThere(river.there[returns]);
        checkBetween(priority, 1, LAST_PRIORITY);
        checkBetween(rate, 0, MOST_WATER);
        checkBetween(share, 0, WHOLE_SHARE);
        checkPath(reach, returns);
        checkFree(rights.there[right]);
        checkFree(rights.hasPriority(priority));
        rights.setDirect(right, share, returns);
        rights.add(right, reach, priority, rate);
        todayIsStale = true;
    }

    public void storage(int right, int reach, int priority, int rate, int reservoir)
            throws IndexOutOfBoundsException, NoSuchElementException, IllegalArgumentException, IllegalStateException {
        checkNumber(right, RIGHTS);
        checkNumber(reach, REACHES);
        checkNumber(reservoir, RESERVOIRS);
        checkThere(river.there[reach]);
        checkThere(reservoirs.there[reservoir]);
        checkBetween(priority, 1, LAST_PRIORITY);
        checkBetween(rate, 0, MOST_WATER);
        checkFree(rights.there[right]);
        checkFree(rights.hasPriority(priority));
        rights.setStorage(right, reservoir);
        rights.add(right, reach, priority, rate);
        todayIsStale = true;
    }

    public void drop(int right) throws IndexOutOfBoundsException, NoSuchElementException {
        checkRight(right);
        rights.remove(right);
        todayIsStale = true;
    }

    public void want(int right, int amount)
            throws IndexOutOfBoundsException, NoSuchElementException, IllegalArgumentException {
        checkRight(right);
        checkBetween(amount, 0, rights.rates[right]);
        rights.wants[right] = amount;
        todayIsStale = true;
    }

    public void inflow(int reach, int amount)
            throws IndexOutOfBoundsException, NoSuchElementException, IllegalArgumentException {
        checkReach(reach);
        checkBetween(amount, 0, MOST_WATER);
        river.inflows[reach] = amount;
        todayIsStale = true;
    }

    public int release(int reservoir, int amount, int to)
            throws IndexOutOfBoundsException, NoSuchElementException, IllegalArgumentException, IllegalStateException {
        checkNumber(reservoir, RESERVOIRS);
        checkNumber(to, REACHES);
        checkThere(reservoirs.there[reservoir]);
        checkThere(river.there[to]);
        checkBetween(amount, 0, Integer.MAX_VALUE);
        checkPath(reservoirs.reaches[reservoir], to);
        checkEnough(reservoirs.waters[reservoir], amount);
        reservoirs.letOut(reservoir, amount);
        river.send(reservoirs.reaches[reservoir], to, amount);
        todayIsStale = true;
        return reservoirs.waters[reservoir];
    }

    public int plan() {
        settleToday();
        int shorts = 0;
        for (int age = 0; age < rights.count; age++) {
            if (isShort(rights.byAge[age])) {
                shorts++;
            }
        }
        return shorts;
    }

    public int given(int right) throws IndexOutOfBoundsException, NoSuchElementException {
        checkRight(right);
        settleToday();
        return today.gets[right];
    }

    public long flow(int reach, int what) throws IndexOutOfBoundsException, NoSuchElementException {
        checkReach(reach);
        if (what == 0) {
            settleToday();
            return today.flows[reach];
        }
        return what == 1 ? river.sent[reach] : NONE;
    }

    public int call(int right) throws IndexOutOfBoundsException, NoSuchElementException {
        checkRight(right);
        settleToday();
        if (!isShort(right)) {
            return NONE;
        }
        int oneMore = today.gets[right] + 1;
        supposed.begin(river, reservoirs);
        if (supposed.most(river, rights, right) < oneMore) {
            return NONE;
        }
        supposed.give(river, rights, right, oneMore);
        supposed.giveAllBut(river, rights, right);
        return oldestThatWouldGetLess();
    }

    public boolean futile(int s, int j) throws IndexOutOfBoundsException, NoSuchElementException {
        checkNumber(s, RIGHTS);
        checkNumber(j, RIGHTS);
        checkThere(rights.there[s]);
        checkThere(rights.there[j]);
        settleToday();
        supposed.begin(river, reservoirs);
        supposed.giveAllBut(river, rights, s);
        return supposed.gets[j] == today.gets[j];
    }

    public int close() {
        settleToday();
        books.write(river, reservoirs, rights, today);
        reservoirs.beginDay(rights, today);
        river.beginDay();
        rights.beginDay();
        todayIsStale = true;
        return books.day;
    }

    public int held(int reservoir, int what) {
        if (reservoir < 0 || reservoir >= RESERVOIRS || !reservoirs.there[reservoir]) {
            return NONE;
        }
        switch (what) {
            case 0:
                return reservoirs.waters[reservoir];
            case 1:
                return reservoirs.capacities[reservoir];
            case 2:
                return reservoirs.reaches[reservoir];
            default:
                return NONE;
        }
    }

    public long book(int day, int what) {
        return books.read(day, what);
    }

    public int about(int right, int what) {
        if (right < 0 || right >= RIGHTS || !rights.there[right]) {
            return NONE;
        }
        switch (what) {
            case 0:
                return rights.priorities[right];
            case 1:
                return rights.rates[right];
            case 2:
                return rights.wants[right];
            case 3:
                return rights.shares[right];
            case 4:
                return rights.reservoirs[right];
            default:
                return NONE;
        }
    }

    public int aged(int k) {
        return k < 0 || k >= rights.count ? NONE : rights.byAge[k];
    }

    private void settleToday() {
        if (todayIsStale) {
            today.begin(river, reservoirs);
            today.giveAllBut(river, rights, NONE);
            todayIsStale = false;
        }
    }

    private boolean isShort(int right) {
        return today.gets[right] < rights.wants[right];
    }

    private int oldestThatWouldGetLess() {
        for (int age = 0; age < rights.count; age++) {
            int right = rights.byAge[age];
            if (supposed.gets[right] < today.gets[right]) {
                return right;
            }
        }
        return NONE;
    }

    private void checkReach(int reach) {
        checkNumber(reach, REACHES);
        checkThere(river.there[reach]);
    }

    private void checkRight(int right) {
        checkNumber(right, RIGHTS);
        checkThere(rights.there[right]);
    }

    private void checkPath(int from, int to) {
        if (!river.leadsTo(from, to)) {
            throw new IllegalArgumentException("the reach is not on the path");
        }
    }

    private static void checkNumber(int number, int count) {
        if (number < 0 || number >= count) {
            throw new IndexOutOfBoundsException("no such number");
        }
    }

    private static void checkThere(boolean there) {
        if (!there) {
            throw new NoSuchElementException("nothing of that number is there");
        }
    }

    private static void checkBetween(int value, int least, int most) {
        if (value < least || value > most) {
            throw new IllegalArgumentException("the value is out of its bounds");
        }
    }

    private static void checkFree(boolean taken) {
        if (taken) {
            throw new IllegalStateException("the place is taken");
        }
    }

    private static void checkEnough(int water, int amount) {
        if (water < amount) {
            throw new IllegalStateException("the reservoir holds less");
        }
    }

    /** The reaches; a reach is only ever added above one that is there, so every path ends at the outlet. */
    private static final class River {
        final boolean[] there = new boolean[REACHES];
        final int[] below = new int[REACHES];
        final int[] inflows = new int[REACHES];
        final long[] sent = new long[REACHES];
        int outlet = NONE;

        void add(int reach, int downstream) {
            there[reach] = true;
            below[reach] = downstream;
            if (downstream == NONE) {
                outlet = reach;
            }
        }

        boolean leadsTo(int from, int to) {
            int at = from;
            for (int step = 0; step < REACHES && at != NONE; step++) {
                if (at == to) {
                    return true;
                }
                at = below[at];
            }
            return false;
        }

        /** Released water is counted at its first reach too: it passes that one, or comes there. */
        void send(int from, int to, int amount) {
            boolean arrived = false;
            int at = from;
            for (int step = 0; step < REACHES && at != NONE && !arrived; step++) {
                sent[at] += amount;
                arrived = at == to;
                at = below[at];
            }
        }

        long allInflow() {
            long all = 0;
            for (int reach = 0; reach < REACHES; reach++) {
                all += inflows[reach];
            }
            return all;
        }

        void beginDay() {
            Arrays.fill(inflows, 0);
            Arrays.fill(sent, 0L);
        }
    }

    /** The reservoirs; what is released leaves their water at once, so that their room is always up to date. */
    private static final class Reservoirs {
        final boolean[] there = new boolean[RESERVOIRS];
        final int[] reaches = new int[RESERVOIRS];
        final int[] capacities = new int[RESERVOIRS];
        final int[] waters = new int[RESERVOIRS];
        long released;

        void add(int reservoir, int reach, int capacity) {
            there[reservoir] = true;
            reaches[reservoir] = reach;
            capacities[reservoir] = capacity;
        }

        void letOut(int reservoir, int amount) {
            waters[reservoir] -= amount;
            released += amount;
        }

        void beginDay(Rights rights, Plan plan) {
            for (int age = 0; age < rights.count; age++) {
                int right = rights.byAge[age];
                if (rights.isStorage(right)) {
                    waters[rights.reservoirs[right]] += plan.gets[right];
                }
            }
            released = 0;
        }
    }

    /** The rights, by number and by age; a storage right has neither share nor return reach: both are NONE. */
    private static final class Rights {
        final boolean[] there = new boolean[RIGHTS];
        final int[] reaches = new int[RIGHTS];
        final int[] priorities = new int[RIGHTS];
        final int[] rates = new int[RIGHTS];
        final int[] wants = new int[RIGHTS];
        final int[] shares = new int[RIGHTS];
        final int[] returns = new int[RIGHTS];
        final int[] reservoirs = new int[RIGHTS];
        final int[] byAge = new int[RIGHTS];
        int count;

        void setDirect(int right, int share, int returnReach) {
            shares[right] = share;
            returns[right] = returnReach;
            reservoirs[right] = NONE;
        }

        void setStorage(int right, int reservoir) {
            shares[right] = NONE;
            returns[right] = NONE;
            reservoirs[right] = reservoir;
        }

        void add(int right, int reach, int priority, int rate) {
            there[right] = true;
            reaches[right] = reach;
            priorities[right] = priority;
            rates[right] = rate;
            wants[right] = rate;
            int age = count;
            while (age > 0 && priorities[byAge[age - 1]] > priority) {
                byAge[age] = byAge[age - 1];
                age--;
            }
            byAge[age] = right;
            count++;
        }

        void remove(int right) {
            there[right] = false;
            int kept = 0;
            for (int age = 0; age < count; age++) {
                if (byAge[age] != right) {
                    byAge[kept] = byAge[age];
                    kept++;
                }
            }
            count = kept;
        }

        boolean hasPriority(int priority) {
            for (int age = 0; age < count; age++) {
                if (priorities[byAge[age]] == priority) {
                    return true;
                }
            }
            return false;
        }

        boolean isStorage(int right) {
            return reservoirs[right] != NONE;
        }

        /** What is gone below the return reach, when so much is diverted; asked of direct rights alone. */
        long usedOf(int right, int amount) {
            return amount - (long) amount * shares[right] / WHOLE_SHARE;
        }

        /**
         * The most that may be diverted where at most so much may be used: what is used is
         * amount * (1000 - share) / 1000, rounded up, so the bound is exact.
         */
        long mostForUse(int right, long use) {
            int lost = WHOLE_SHARE - shares[right];
            return lost <= 0 ? MOST_WATER : use * WHOLE_SHARE / lost;
        }

        void beginDay() {
            System.arraycopy(rates, 0, wants, 0, RIGHTS);
        }
    }

    /** A plan that holds, being made right by right: what each gets, and what that leaves of flow and room. */
    private static final class Plan {
        final int[] gets = new int[RIGHTS];
        final long[] flows = new long[REACHES];
        final int[] rooms = new int[RESERVOIRS];

        void begin(River river, Reservoirs reservoirs) {
            Arrays.fill(gets, 0);
            Arrays.fill(flows, 0L);
            for (int reach = 0; reach < REACHES; reach++) {
                if (river.inflows[reach] > 0) {
                    pour(river, reach);
                }
            }
            for (int reservoir = 0; reservoir < RESERVOIRS; reservoir++) {
                rooms[reservoir] = reservoirs.capacities[reservoir] - reservoirs.waters[reservoir];
            }
        }

        private void pour(River river, int reach) {
            int at = reach;
            for (int step = 0; step < REACHES && at != NONE; step++) {
                flows[at] += river.inflows[reach];
                at = river.below[at];
            }
        }

        void giveAllBut(River river, Rights rights, int passedOver) {
            for (int age = 0; age < rights.count; age++) {
                int right = rights.byAge[age];
                if (right != passedOver) {
                    give(river, rights, right, most(river, rights, right));
                }
            }
        }

        /** The most that a right that has got nothing yet can get, all others keeping what they have. */
        int most(River river, Rights rights, int right) {
            long most = rights.wants[right];
            if (rights.isStorage(right)) {
                most = Math.min(most, rooms[rights.reservoirs[right]]);
            }
            boolean cameBack = false;
            int at = rights.reaches[right];
            for (int step = 0; step < REACHES && at != NONE; step++) {
                cameBack = cameBack || at == rights.returns[right];
                most = Math.min(most, cameBack ? rights.mostForUse(right, flows[at]) : flows[at]);
                at = river.below[at];
            }
            return (int) most;
        }

        void give(River river, Rights rights, int right, int amount) {
            gets[right] = amount;
            if (rights.isStorage(right)) {
                rooms[rights.reservoirs[right]] -= amount;
            }
            boolean cameBack = false;
            int at = rights.reaches[right];
            for (int step = 0; step < REACHES && at != NONE; step++) {
                cameBack = cameBack || at == rights.returns[right];
                flows[at] -= cameBack ? rights.usedOf(right, amount) : amount;
                at = river.below[at];
            }
        }
    }

    /** The books: a page is used again when its day is no longer among the latest. */
    private static final class Books {
        private static final int DAYS_KEPT = 60;
        private static final int ENTRIES = 5;
        private static final int INFLOW = 0;
        private static final int OUTFLOW = 1;
        private static final int USED = 2;
        private static final int STORED = 3;
        private static final int RELEASED = 4;

        final long[] entries = new long[DAYS_KEPT * ENTRIES];
        int day;

        void write(River river, Reservoirs reservoirs, Rights rights, Plan plan) {
            long used = reservoirs.released;
            long stored = 0;
            for (int age = 0; age < rights.count; age++) {
                int right = rights.byAge[age];
                if (rights.isStorage(right)) {
                    stored += plan.gets[right];
                } else {
                    used += rights.usedOf(right, plan.gets[right]);
                }
            }
            int page = pageOf(day);
            entries[page + INFLOW] = river.allInflow();
            entries[page + OUTFLOW] = river.outlet == NONE ? 0 : plan.flows[river.outlet];
            entries[page + USED] = used;
            entries[page + STORED] = stored;
            entries[page + RELEASED] = reservoirs.released;
            day++;
        }

        private static int pageOf(int ofDay) {
            return Math.floorMod(ofDay, DAYS_KEPT) * ENTRIES;
        }

        long read(int ofDay, int what) {
            if (ofDay < 0 || ofDay >= day || ofDay < day - DAYS_KEPT || what < 0 || what >= ENTRIES) {
                return NONE;
            }
            return entries[pageOf(ofDay) + what];
        }
    }
}
