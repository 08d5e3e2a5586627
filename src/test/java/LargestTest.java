/** The largest rivers and numbers, and whole lives of 512 calls: what is kept and summed stays right up to there. */
public final class LargestTest extends Checks {
    private static final long ALL_INFLOW = 32L * MOST;

    /** All 32 reaches in a line with the most inflow each; 0 is the outlet. */
    private static RiverDesk line() {
        RiverDesk x = new RiverDesk();
        x.reach(0, -1);
        for (int reach = 1; reach < 32; reach++) {
            x.reach(reach, reach - 1);
        }
        rain(x);
        return x;
    }

    private static void rain(RiverDesk x) {
        for (int reach = 0; reach < 32; reach++) {
            x.inflow(reach, MOST);
        }
    }

    private static void dueBook(RiverDesk x, int day, long... page) {
        for (int what = 0; what < page.length; what++) {
            due("17: day " + day + ", " + what, page[what], x.book(day, what));
        }
    }

    private static void theMostWater() {
        RiverDesk x = line();
        for (int reach = 0; reach < 32; reach++) {
            due("12: all above " + reach, (32L - reach) * MOST, x.flow(reach, 0));
        }
        x.close();
        dueBook(x, 0, ALL_INFLOW, ALL_INFLOW, 0, 0, 0);
    }

    private static void allOfItIsUsed() {
        RiverDesk x = line();
        for (int right = 0; right < 40; right++) {
            x.right(right, right < 32 ? right : 0, right + 1, MOST, 0, 0);
        }
        due("10: 8 rights too many", 8, x.plan());
        due("11: the last that is served", MOST, x.given(31));
        due("11: the first that is not", 0, x.given(32));
        due("13: the youngest calls the youngest that has water", 31, x.call(39));
        due("14: stopping it helps only the next one", false, x.futile(31, 32));
        due("14: and not the one behind", true, x.futile(31, 33));
        due("14: the oldest, whose water comes by, too", false, x.futile(0, 32));
        x.close();
        dueBook(x, 0, ALL_INFLOW, 0, ALL_INFLOW, 0, 0);
    }

    private static void theMostIsDivertedAgainAndAgain() {
        int[] shares = {1000, 999, 998, 500, 1, 0};
        long used = 0;
        RiverDesk x = line();
        for (int i = 0; i < shares.length; i++) {
            x.right(i, 0, i + 1, MOST, shares[i], 0);
            used += 1000000L * (1000 - shares[i]);
        }
        due("10: none is short", 0, x.plan());
        due("12: what is left", ALL_INFLOW - used, x.flow(0, 0));
        x.close();
        dueBook(x, 0, ALL_INFLOW, ALL_INFLOW - used, used, 0, 0);

        RiverDesk all = line();
        for (int right = 0; right < 40; right++) {
            all.right(right, 31, right + 1, MOST, 999, 31);
        }
        due("10: 1000 times the water is not too much", 0, all.plan());
        all.close();
        dueBook(all, 0, ALL_INFLOW, ALL_INFLOW - 40000000, 40000000, 0, 0);
        due("12: nothing flows on the new day", 0, all.flow(0, 0));
        due("10: so all are short", 40, all.plan());
    }

    private static void theMostIsStoredAndReleased() {
        RiverDesk x = line();
        for (int i = 0; i < 8; i++) {
            x.reservoir(i, 31, MOST);
            x.storage(i, i, i + 1, MOST, i);
        }
        due("10: all have room", 0, x.plan());
        x.close();
        dueBook(x, 0, ALL_INFLOW, 24L * MOST, 0, 8L * MOST, 0);
        rain(x);
        due("10: none has room", 8, x.plan());
        for (int i = 0; i < 8; i++) {
            due("16: full", MOST, x.held(i, 0));
            due("13: none is called for it", -1, x.call(i));
            due("9: all of it", 0, x.release(i, MOST, 0));
        }
        due("12: released, at the top", 8L * MOST, x.flow(31, 1));
        due("12: released, at the outlet", 8L * MOST, x.flow(0, 1));
        due("10: all have room again", 0, x.plan());
        x.close();
        dueBook(x, 1, ALL_INFLOW, 24L * MOST, 8L * MOST, 8L * MOST, 8L * MOST);
        due("16: full again", MOST, x.held(7, 0));
        dueBook(x, 0, ALL_INFLOW, 24L * MOST, 0, 8L * MOST, 0);
    }

    private static void allIsUsedAndReleased() {
        RiverDesk x = line();
        for (int i = 0; i < 8; i++) {
            x.reservoir(i, 0, MOST);
            x.storage(i, 0, i + 1, MOST, i);
        }
        for (int i = 8; i < 40; i++) {
            x.right(i, i - 8, i + 1, MOST, 0, i - 8);
        }
        x.close();
        dueBook(x, 0, ALL_INFLOW, 0, 24L * MOST, 8L * MOST, 0);
        for (int i = 0; i < 8; i++) {
            x.drop(i);
            x.release(i, MOST, 0);
        }
        rain(x);
        x.close();
        dueBook(x, 1, ALL_INFLOW, 0, 40L * MOST, 0, 8L * MOST);
    }

    private static void oneReservoirForAllRights() {
        RiverDesk x = line();
        x.reservoir(5, 3, MOST);
        for (int right = 0; right < 40; right++) {
            x.storage(right, right % 32, 40 - right, MOST, 5);
        }
        due("11: the oldest fills it", MOST, x.given(39));
        due("10: all others are short", 39, x.plan());
        due("13: of room", 39, x.call(0));
        x.want(39, MOST - 1);
        due("11: one is left", 1, x.given(38));
        due("13: the youngest that has some", 38, x.call(0));
        x.close();
        due("16: full, and not more", MOST, x.held(5, 0));
        dueBook(x, 0, ALL_INFLOW, 31L * MOST, 0, MOST, 0);
    }

    private static void onlyDaysFor512Calls() {
        RiverDesk x = new RiverDesk();
        for (int day = 1; day <= 512; day++) {
            due("15: each call a day", day, x.close());
        }
    }

    private static void daysUpToTheLastCall() {
        RiverDesk x = new RiverDesk();
        for (int day = 1; day <= 450; day++) {
            due("15: day", day, x.close());
        }
        due("17: before the latest 60", -1, x.book(389, 0));
        for (int day = 390; day < 450; day++) {
            due("17: of the latest 60", 0, x.book(day, 0));
        }
        due("17: today, by the 512th call", -1, x.book(450, 0));
    }

    /** 3 calls, 3 on each of 149 days, and 62: 512. */
    private static void aReservoirUpToTheLastCall() {
        RiverDesk x = new RiverDesk();
        x.reach(0, -1);
        x.reservoir(0, 0, MOST);
        x.storage(0, 0, 1, MOST, 0);
        int held = 0;
        for (int day = 0; day < 149; day++) {
            int released = Math.min(day, 1);
            x.inflow(0, day + 1);
            held -= released;
            due("9: day " + day, held, x.release(0, released, 0));
            held += day + 1;
            x.close();
        }
        due("16: what was stored less what was released", 11027, x.held(0, 0));
        for (int day = 89; day < 149; day++) {
            due("17: stored on day " + day, day + 1, x.book(day, 3));
        }
        due("17: the one before", -1, x.book(88, 3));
    }

    /** 3 calls, the first day 2, 500 releases, and 7: 512. */
    private static void releasesUpToTheLastCall() {
        RiverDesk x = new RiverDesk();
        x.reach(0, -1);
        x.reservoir(0, 0, MOST);
        x.storage(0, 0, 1, MOST, 0);
        x.inflow(0, MOST);
        x.close();
        for (int i = 1; i <= 500; i++) {
            due("9: besides what was", MOST - 2000000 * i, x.release(0, 2000000, 0));
        }
        due("12: all of them", MOST, x.flow(0, 1));
        x.close();
        dueBook(x, 1, 0, 0, MOST, 0, MOST);
    }

    /** 1 call, 170 times 3, and 1: 512. */
    private static void rightsComeAndGoUpToTheLastCall() {
        RiverDesk x = new RiverDesk();
        x.reach(0, -1);
        for (int i = 0; i < 170; i++) {
            int number = i % 40;
            int priority = 1000 - i;
            thrown("4: it comes", null, () -> x.right(number, 0, priority, 5, 0, 0));
            due("19: the oldest", number, x.aged(0));
            thrown("6: it goes", null, () -> x.drop(number));
        }
        due("19: none is left", -1, x.aged(0));
    }

    public static void main(String[] args) {
        theMostWater();
        allOfItIsUsed();
        theMostIsDivertedAgainAndAgain();
        theMostIsStoredAndReleased();
        allIsUsedAndReleased();
        oneReservoirForAllRights();
        onlyDaysFor512Calls();
        daysUpToTheLastCall();
        aReservoirUpToTheLastCall();
        releasesUpToTheLastCall();
        rightsComeAndGoUpToTheLastCall();
        finish("the largest numbers and 512 calls are as due");
    }
}
