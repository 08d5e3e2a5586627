/** The sentences of the document that name an edge of what is planned, called, stopped and booked, one by one. */
public final class EdgesTest extends Checks {
    /** What each reach of the tree flows to. */
    private static final int[] TREE = {-1, 0, 1, 1, 2, 2, 3, 0};

    private static RiverDesk tree() {
        RiverDesk x = new RiverDesk();
        for (int reach = 0; reach < TREE.length; reach++) {
            x.reach(reach, TREE[reach]);
        }
        return x;
    }

    private static boolean inTreeOnPath(int from, int to) {
        int at = from;
        while (at != -1 && at != to) {
            at = TREE[at];
        }
        return at == to;
    }

    /** Reach 1 flows to the outlet 0. */
    private static RiverDesk two() {
        RiverDesk x = new RiverDesk();
        x.reach(0, -1);
        x.reach(1, 0);
        return x;
    }

    /** Two reaches; reservoir 0 beside reach 1 holds so much of its capacity, by storage right 0, priority 500. */
    private static RiverDesk holding(int held, int capacity) {
        RiverDesk x = two();
        x.reservoir(0, 1, capacity);
        x.storage(0, 1, 500, MOST, 0);
        x.inflow(1, held);
        x.close();
        due("what is held", held, x.held(0, 0));
        return x;
    }

    private static void aPathIsTheReachAndAllBelowIt() {
        for (int i = 0; i < TREE.length; i++) {
            for (int j = 0; j < TREE.length; j++) {
                int from = i;
                int to = j;
                RiverDesk x = tree();
                x.reservoir(0, from, 5);
                Class<?> want = inTreeOnPath(from, to) ? null : ARGUMENT;
                thrown("4: from " + from + " it returns at " + to, want, () -> x.right(0, from, 1, 0, 1, to));
                thrown("9: from " + from + " it is released to " + to, want, () -> x.release(0, 0, to));
                thrown("5: stored from " + to + " beside " + from, null, () -> x.storage(1, to, 2, 0, 0));
                x.inflow(from, 9);
                due("12: inflow of " + from + " at " + to, inTreeOnPath(from, to) ? 9 : 0, x.flow(to, 0));
            }
        }
    }

    private static void atMostOneOutlet() {
        for (int outlet : new int[] {0, 17, 31}) {
            RiverDesk x = new RiverDesk();
            x.reach(outlet, -1);
            for (int i = 0; i < 32; i++) {
                int other = i;
                thrown("2: another outlet " + other + " besides " + outlet, STATE, () -> x.reach(other, -1));
            }
            for (int i = 0; i < 32; i++) {
                int other = i;
                thrown("2: above the outlet", other == outlet ? STATE : null, () -> x.reach(other, outlet));
            }
            for (int i = 0; i < 32; i++) {
                int other = i;
                thrown("2: all are there", STATE, () -> x.reach(other, outlet));
            }
        }
    }

    private static void whatComesBackIsCut() {
        int[][] cases = {{0, 500, 0}, {1, 0, 0}, {MOST, 0, 0}, {999, 1, 0}, {1000, 1, 1}, {1999, 1, 1}, {2000, 1, 2},
            {1, 999, 0}, {2, 999, 1}, {1000, 999, 999}, {1001, 999, 999}, {1002, 999, 1000}, {1, 500, 0}, {2, 500, 1},
            {3, 333, 0}, {4, 333, 1}, {MOST - 1, 999, 998999999}, {MOST, 999, 999000000}, {1, 1000, 1},
            {MOST, 1000, MOST}, {MOST, 1, 1000000}, {MOST - 1, 1, 999999}};
        for (int[] one : cases) {
            RiverDesk x = two();
            x.right(0, 1, 1, one[0], one[1], 0);
            x.inflow(1, MOST);
            String what = "4: of " + one[0] + " by the share " + one[1];
            due(what + " is diverted", one[0], x.given(0));
            due(what + " is left above", MOST - one[0], x.flow(1, 0));
            due(what + " comes back", one[2], x.flow(0, 0) - x.flow(1, 0));
            x.close();
            due(what + " is used", one[0] - one[2], x.book(0, 2));
        }
    }

    private static void theRateIsWantedAtFirst() {
        for (int rate : new int[] {0, 1, MOST}) {
            RiverDesk x = two();
            x.reservoir(0, 0, 0);
            x.right(0, 1, 1, rate, 0, 1);
            x.storage(1, 1, 2, rate, 0);
            due("18: a direct one wants its rate at first", rate, x.about(0, 2));
            due("18: a storage one wants its rate at first", rate, x.about(1, 2));
            x.want(0, 0);
            x.want(1, 0);
            due("18: it wants 0", 0, x.about(0, 2) + x.about(1, 2));
            due("10: who wants 0 is not short", 0, x.plan());
            x.close();
            due("15: a direct one wants its rate again", rate, x.about(0, 2));
            due("15: a storage one wants its rate again", rate, x.about(1, 2));
        }
    }

    private static void prioritiesAreNeverTwice() {
        RiverDesk x = two();
        x.reservoir(0, 0, 9);
        x.right(0, 1, 1, 5, 0, 1);
        x.storage(1, 1, 1000000, 5, 0);
        for (int p : new int[] {1, 1000000}) {
            thrown("4: priority " + p + " is there", STATE, () -> x.right(2, 1, p, 5, 0, 1));
            thrown("5: priority " + p + " is there", STATE, () -> x.storage(2, 1, p, 5, 0));
        }
        thrown("4: one beside the oldest", null, () -> x.right(2, 1, 2, 5, 0, 1));
        thrown("4: one beside the youngest", null, () -> x.right(3, 1, 999999, 5, 0, 1));
        int[] ages = {0, 2, 3, 1, -1};
        for (int k = 0; k < ages.length; k++) {
            due("19: the lower priority is the older", ages[k], x.aged(k));
        }
        x.drop(0);
        x.drop(1);
        thrown("6: the oldest priority is free again", null, () -> x.storage(1, 1, 1, 5, 0));
        thrown("6: the youngest priority is free again", null, () -> x.right(0, 1, 1000000, 5, 0, 1));
        due("19: now the other one is the oldest", 1, x.aged(0));
        due("19: now the other one is the youngest", 0, x.aged(3));
    }

    private static void theOlderOneIsServedWhateverItsNumber() {
        for (int older = 0; older < 2; older++) {
            RiverDesk x = two();
            x.right(older, 1, 999999, 7, 0, 1);
            x.right(1 - older, 1, 1000000, 7, 0, 1);
            x.inflow(1, 7);
            due("11: the older one", 7, x.given(older));
            due("11: the younger one", 0, x.given(1 - older));
            x.drop(older);
            x.right(older, 1, 1000000 - 2, 3, 0, 1);
            due("11: it came later, and is older still", 3, x.given(older));
            due("11: what is left", 4, x.given(1 - older));
        }
    }

    private static void theNaturalFlowIsNotBelowZero() {
        RiverDesk x = two();
        x.right(0, 1, 1, 10, 0, 1);
        x.inflow(1, 10);
        due("11: all of the flow", 10, x.given(0));
        due("12: 0 is not below 0", 0, x.flow(1, 0));
        due("10: not short", 0, x.plan());
        x.inflow(1, 9);
        due("11: one less", 9, x.given(0));
        due("10: short by one", 1, x.plan());
        x.inflow(1, 0);
        due("11: nothing", 0, x.given(0));
        x.inflow(0, 10);
        due("11: what flows in below it does not help", 0, x.given(0));

        RiverDesk below = two();
        below.right(0, 0, 1, 10, 0, 0);
        below.right(1, 1, 2, 10, 0, 1);
        below.inflow(1, 12);
        due("11: only so much as the older one below leaves", 2, below.given(1));
        due("12: nothing is left there", 0, below.flow(0, 0));
        due("12: but above it is", 10, below.flow(1, 0));
        below.inflow(0, 3);
        due("11: inflow below eases it", 5, below.given(1));
    }

    private static void whatComesBackCountsFromItsReachOn() {
        RiverDesk x = tree();
        x.right(0, 4, 2, 100, 1000, 1);
        x.right(1, 2, 1, 30, 0, 2);
        x.inflow(4, 100);
        due("11: the older one between reach and return binds", 70, x.given(0));
        x.drop(1);
        x.right(1, 1, 1, 30, 0, 1);
        due("11: the older one at the return does not", 100, x.given(0));
        due("11: and gets its own", 30, x.given(1));
        due("12: where it was diverted", 0, x.flow(4, 0));
        due("12: between", 0, x.flow(2, 0));
        due("12: at the return", 70, x.flow(1, 0));
    }

    private static void whatComesBackAtOnceCountsAtOnce() {
        RiverDesk x = two();
        x.right(0, 1, 5, MOST, 1000, 1);
        due("11: without a drop it gives back all that it has", MOST, x.given(0));
        due("12: and no flow is lost", 0, x.flow(1, 0));
        x.drop(0);
        x.right(0, 1, 5, MOST, 999, 1);
        due("11: without a drop the least loss is too much", 0, x.given(0));
        x.inflow(1, 1);
        due("11: 1 of 1000 is lost", 1000, x.given(0));
        due("12: no flow is left", 0, x.flow(1, 0));
        x.inflow(1, 999999);
        due("11: 999999 of 999999000 are lost", 999999000, x.given(0));
        x.inflow(1, 1000000);
        due("11: up to its rate", MOST, x.given(0));
        x.drop(0);
        x.right(0, 1, 5, MOST, 1, 1);
        x.inflow(1, 998);
        due("11: 998 less 0", 998, x.given(0));
        x.inflow(1, 999);
        due("11: 1000 less 1", 1000, x.given(0));
    }

    private static void theRoomOfAReservoir() {
        RiverDesk none = two();
        none.reservoir(0, 1, 0);
        none.storage(0, 1, 1, 5, 0);
        none.inflow(1, 9);
        due("11: no capacity, no room", 0, none.given(0));
        due("10: short of room is short", 1, none.plan());
        due("13: room that is not there is called of none", -1, none.call(0));

        RiverDesk x = holding(98, 100);
        x.storage(1, 1, 400, 1, 0);
        x.inflow(1, 50);
        due("11: the older one fills 1 of 2", 1, x.given(1));
        due("11: the younger one the other", 1, x.given(0));
        due("12: the rest flows on", 48, x.flow(0, 0));
        x.close();
        due("16: full", 100, x.held(0, 0));
        x.inflow(1, 50);
        due("11: full, for the older one", 0, x.given(1));
        due("11: full, for the younger one", 0, x.given(0));
        x.release(0, 3, 0);
        due("11: what is released today is out of it already", 1, x.given(1));
        due("11: for all of its rights", 2, x.given(0));
        x.close();
        due("16: full again", 100, x.held(0, 0));
        x.reservoir(1, 0, 30);
        x.storage(2, 1, 600, 100, 1);
        x.inflow(1, 50);
        due("11: another reservoir has its own room", 30, x.given(2));
        x.drop(0);
        x.drop(1);
        due("16: what is held does not go with its rights", 100, x.held(0, 0));
        due("9: and can be released", 0, x.release(0, 100, 1));
    }

    private static void whatIsReleasedIsNoNaturalFlow() {
        RiverDesk x = holding(80, 100);
        x.drop(0);
        x.right(1, 1, 1, 50, 0, 1);
        x.right(2, 0, 2, 50, 0, 0);
        x.release(0, 80, 0);
        due("11: no right gets it where it passes", 0, x.given(1));
        due("11: nor where it comes", 0, x.given(2));
        due("12: it passes", 80, x.flow(1, 1));
        due("12: it comes there whole", 80, x.flow(0, 1));
        due("12: the natural flow", 0, x.flow(0, 0));
        x.close();
        long[] page = {0, 0, 80, 0, 80};
        for (int what = 0; what < 5; what++) {
            due("17: a day of release alone, " + what, page[what], x.book(1, what));
        }
    }

    private static void whatIsReleasedEndsWhereItComes() {
        RiverDesk x = tree();
        x.reservoir(3, 2, 100);
        x.storage(0, 4, 1, 100, 3);
        x.inflow(4, 100);
        x.close();
        due("9: to its own reach", 90, x.release(3, 10, 2));
        due("9: one below", 70, x.release(3, 20, 1));
        due("9: to the outlet", 40, x.release(3, 30, 0));
        due("9: nothing at all", 40, x.release(3, 0, 0));
        long[] passing = {30, 50, 60, 0, 0, 0, 0, 0};
        for (int reach = 0; reach < passing.length; reach++) {
            due("12: released water at " + reach, passing[reach], x.flow(reach, 1));
        }
        thrown("9: more than is left", STATE, () -> x.release(3, 41, 0));
        due("9: all that is left", 0, x.release(3, 40, 2));
        thrown("9: one more", STATE, () -> x.release(3, 1, 2));
        due("9: nothing out of nothing", 0, x.release(3, 0, 2));
        x.close();
        for (int reach = 0; reach < passing.length; reach++) {
            due("15: no releases on a new day", 0, x.flow(reach, 1));
        }
        due("17: released", 100, x.book(1, 4));
        x.close();
        due("17: released on the day after", 0, x.book(2, 4));
        due("17: used on the day after", 0, x.book(2, 2));
    }

    private static void whatIsStoredTodayCannotBeReleasedToday() {
        RiverDesk x = two();
        x.reservoir(0, 1, 10);
        x.storage(0, 1, 1, 10, 0);
        x.inflow(1, 10);
        due("11: to be stored", 10, x.given(0));
        due("16: not yet", 0, x.held(0, 0));
        thrown("9: it holds less", STATE, () -> x.release(0, 1, 0));
        x.close();
        due("9: tomorrow", 0, x.release(0, 10, 0));
    }

    private static void whoIsShort() {
        RiverDesk x = new RiverDesk();
        due("10: no rights", 0, x.plan());
        x.reach(0, -1);
        for (int i = 0; i < 40; i++) {
            x.right(i, 0, i + 1, 1, 0, 0);
        }
        due("10: all 40", 40, x.plan());
        x.inflow(0, 1);
        due("10: all but one", 39, x.plan());
        x.inflow(0, 39);
        due("10: the youngest", 1, x.plan());
        due("11: the one before it", 1, x.given(38));
        due("11: the youngest", 0, x.given(39));
        x.inflow(0, 40);
        due("10: none", 0, x.plan());
        x.inflow(0, 41);
        due("10: none, and one is left", 1, x.flow(0, 0) + x.plan());
    }

    private static void whoCalls() {
        RiverDesk x = two();
        x.right(0, 1, 10, 10, 0, 1);
        x.inflow(1, 10);
        due("13: given all that it wants", -1, x.call(0));
        x.inflow(1, 9);
        due("13: the oldest has none to call", -1, x.call(0));
        x.right(1, 0, 20, 5, 0, 0);
        x.right(2, 1, 30, 5, 0, 1);
        due("13: of one that has all the water", 0, x.call(1));
        due("13: an older one that has nothing loses nothing", 0, x.call(2));
        x.inflow(0, 5);
        due("13: the water of the one below does not reach it", 0, x.call(2));
        x.inflow(1, 12);
        due("11: 2 of 5", 2, x.given(2));
        due("13: it calls the one that would get less for one more", 0, x.call(2));
        x.inflow(0, 0);
        due("11: 2 are left for the second", 2, x.given(1));
        due("11: none for the third", 0, x.given(2));
        due("13: the youngest that can be spared loses, and is called", 1, x.call(2));
        x.want(2, 0);
        due("13: who wants nothing calls none", -1, x.call(2));
        x.want(2, 1);
        due("13: who wants just one more calls", 1, x.call(2));
        x.drop(1);
        due("13: without the second it has what it wants", -1, x.call(2));
    }

    private static void whoseLossIsOnlyTheCut() {
        RiverDesk x = two();
        x.right(0, 1, 1, 3, 500, 1);
        x.right(1, 1, 2, 1, 0, 1);
        x.inflow(1, 2);
        due("11: 3 less 1 are all", 3, x.given(0));
        due("13: 2 less 1 would leave one", 0, x.call(1));
        x.inflow(1, 3);
        due("13: there is one left", -1, x.call(1));

        RiverDesk whole = two();
        whole.right(0, 1, 1, 100, 1000, 1);
        whole.right(1, 1, 2, 7, 0, 1);
        whole.inflow(1, 5);
        due("13: who gives all back at once has nothing that helps", -1, whole.call(1));
        due("14: nor does stopping it", true, whole.futile(0, 1));
    }

    private static void theOldestThatLosesIsCalled() {
        RiverDesk x = tree();
        x.right(0, 4, 1, 10, 0, 4);
        x.right(1, 1, 2, 10, 0, 1);
        x.right(2, 4, 3, 10, 0, 4);
        x.right(3, 3, 4, 4, 0, 3);
        x.inflow(4, 20);
        due("11: the third has nothing", 0, x.given(2));
        due("13: the second would get less, the oldest would not", 1, x.call(2));
        x.inflow(4, 10);
        x.inflow(6, 10);
        due("11: both are served", 10, x.given(1));
        due("13: the oldest one alone has water there", 0, x.call(2));
        due("13: beside them, the second", 1, x.call(3));
    }

    private static void whoseStoppingIsFutile() {
        RiverDesk x = two();
        x.right(0, 1, 1, 10, 0, 1);
        x.right(1, 1, 2, 10, 0, 1);
        x.right(2, 1, 3, 10, 0, 1);
        due("14: no water, itself", true, x.futile(0, 0));
        due("14: no water, another", true, x.futile(0, 1));
        x.inflow(1, 10);
        due("14: itself, for it has something", false, x.futile(0, 0));
        due("14: itself, for it has nothing", true, x.futile(1, 1));
        due("14: the next one gets it", false, x.futile(0, 1));
        due("14: the third one does not", true, x.futile(0, 2));
        due("14: who has nothing", true, x.futile(1, 2));
        due("14: a younger one", true, x.futile(2, 0));
        x.inflow(1, 20);
        due("14: for one that has all already", true, x.futile(0, 1));
        due("14: now the third one gets it", false, x.futile(0, 2));
        x.inflow(1, 30);
        due("14: all have all", true, x.futile(0, 2));
        due("14: itself, still", false, x.futile(2, 2));
        x.want(2, 0);
        due("14: itself, wanting nothing", true, x.futile(2, 2));
        x.inflow(1, 11);
        x.want(2, 10);
        x.want(0, 1);
        due("11: nothing is left for the third one", 0, x.given(2));
        due("14: one more is enough not to be futile", false, x.futile(0, 2));
        due("14: asking changes no want", 1, x.about(0, 2));
        due("14: asking changes no plan", 1, x.given(0));
    }

    private static void aDayIsClosed() {
        RiverDesk empty = new RiverDesk();
        due("15: the first one", 1, empty.close());
        due("15: the second one", 2, empty.close());
        for (int what = 0; what < 5; what++) {
            due("17: without a river", 0, empty.book(0, what));
            due("17: without a river, again", 0, empty.book(1, what));
            due("17: today", -1, empty.book(2, what));
        }
        empty.reach(4, -1);
        empty.inflow(4, 5);
        due("15: the third one", 3, empty.close());
        due("17: inflow", 5, empty.book(2, 0));
        due("17: outflow", 5, empty.book(2, 1));
        due("17: the day before stays", 0, empty.book(1, 0));
    }

    private static void theBooksBalance() {
        RiverDesk x = holding(40, 50);
        x.right(1, 1, 5, 33, 499, 0);
        x.right(2, 1, 6, 8, 1000, 1);
        x.inflow(1, 60);
        x.inflow(0, 2);
        x.release(0, 5, 1);
        x.release(0, 6, 0);
        x.close();
        due("17: INFLOW", 62, x.book(1, 0));
        due("17: USED, 33 less 16, 8 less 8, and 11", 28, x.book(1, 2));
        due("17: STORED, the room after the releases", 21, x.book(1, 3));
        due("17: RELEASED", 11, x.book(1, 4));
        due("17: OUTFLOW", 24, x.book(1, 1));
        due("17: together", 62 + 11, x.book(1, 1) + x.book(1, 2) + x.book(1, 3));
        x.drop(1);
        x.drop(0);
        due("17: the books do not change with the rights", 28, x.book(1, 2));
    }

    private static void theLatest60Days() {
        for (int closed : new int[] {0, 1, 2, 59, 60, 61, 119, 120, 121, 180, 181, 200}) {
            RiverDesk x = new RiverDesk();
            x.reach(0, -1);
            for (int day = 0; day < closed; day++) {
                x.inflow(0, 1000 + day);
                x.close();
            }
            for (int day = closed - 62; day < closed + 2; day++) {
                boolean kept = day >= 0 && day >= closed - 60 && day < closed;
                due("17: day " + day + " of " + closed, kept ? 1000 + day : -1, x.book(day, 0));
            }
            due("17: the day that will take its page", -1, x.book(closed + 60, 1));
            due("17: the last of all days", -1, x.book(Integer.MAX_VALUE, 1));
            due("17: the first of all days", -1, x.book(Integer.MIN_VALUE, 1));
        }
    }

    private static void aDroppedRightIsGone() {
        RiverDesk x = two();
        x.reservoir(0, 1, 9);
        x.storage(0, 1, 1, 9, 0);
        x.right(1, 1, 2, 9, 0, 1);
        x.inflow(1, 9);
        x.drop(0);
        for (int what = 0; what < 5; what++) {
            due("18: about one that went", -1, x.about(0, what));
        }
        thrown("7: want", MISSING, () -> x.want(0, 0));
        thrown("11: given", MISSING, () -> x.given(0));
        thrown("13: call", MISSING, () -> x.call(0));
        thrown("14: futile, s", MISSING, () -> x.futile(0, 1));
        thrown("14: futile, j", MISSING, () -> x.futile(1, 0));
        thrown("6: drop", MISSING, () -> x.drop(0));
        due("11: the other one gets all", 9, x.given(1));
        x.close();
        due("16: nothing was stored by it", 0, x.held(0, 0));
        x.drop(1);
        due("19: none is left", -1, x.aged(0));
        due("10: none is short", 0, x.plan());
        x.right(0, 1, 1, 4, 0, 1);
        x.want(0, 1);
        x.drop(0);
        x.right(0, 1, 1, 6, 0, 1);
        due("18: a new one of the same number wants its rate", 6, x.about(0, 2));
    }

    public static void main(String[] args) {
        aPathIsTheReachAndAllBelowIt();
        atMostOneOutlet();
        whatComesBackIsCut();
        theRateIsWantedAtFirst();
        prioritiesAreNeverTwice();
        theOlderOneIsServedWhateverItsNumber();
        theNaturalFlowIsNotBelowZero();
        whatComesBackCountsFromItsReachOn();
        whatComesBackAtOnceCountsAtOnce();
        theRoomOfAReservoir();
        whatIsReleasedIsNoNaturalFlow();
        whatIsReleasedEndsWhereItComes();
        whatIsStoredTodayCannotBeReleasedToday();
        whoIsShort();
        whoCalls();
        whoseLossIsOnlyTheCut();
        theOldestThatLosesIsCalled();
        whoseStoppingIsFutile();
        aDayIsClosed();
        theBooksBalance();
        theLatest60Days();
        aDroppedRightIsGone();
        finish("all edges are as due");
    }
}
