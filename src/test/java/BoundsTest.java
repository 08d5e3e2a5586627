/**
 * Each bound of the document: what is just inside it is taken, what is just outside it is refused, or answered
 * with NONE. Every value is tried on a desk of its own.
 */
public final class BoundsTest extends Checks {
    /** A line of all 32 reaches, each above the one before it; 0 is the outlet. */
    private static RiverDesk line() {
        RiverDesk x = new RiverDesk();
        x.reach(0, -1);
        for (int reach = 1; reach < 32; reach++) {
            x.reach(reach, reach - 1);
        }
        return x;
    }

    /** The line with all 8 reservoirs, each holding 50 of 60, and all 40 rights, each with the rate 50. */
    private static RiverDesk full() {
        RiverDesk x = line();
        for (int i = 0; i < 8; i++) {
            x.reservoir(i, 31 - i, 60);
            x.storage(i, 31 - i, 40 - i, 50, i);
        }
        for (int i = 8; i < 40; i++) {
            x.right(i, i - 8, 1000 - i, 50, 100, 0);
        }
        x.inflow(31, 400);
        x.close();
        x.inflow(31, 100);
        return x;
    }

    private static void reach() {
        takes("2: reach", 0, 31, NUMBER, v -> new RiverDesk().reach(v, -1));
        for (int i = 0; i < 32; i++) {
            RiverDesk x = new RiverDesk();
            int below = i;
            int above = (i + 1) % 32;
            x.reach(below, -1);
            thrown("2: downstream " + below, null, () -> x.reach(above, below));
        }
        for (int v : outsideOf(-1, 31)) {
            thrown("2: downstream " + v, NUMBER, () -> line().reach(0, v));
            thrown("2: downstream of the first one " + v, NUMBER, () -> new RiverDesk().reach(0, v));
        }
    }

    private static void reservoir() {
        takes("3: reservoir", 0, 7, NUMBER, v -> line().reservoir(v, 5, 10));
        takes("3: reach", 0, 31, NUMBER, v -> line().reservoir(3, v, 10));
        takes("3: capacity", 0, MOST, ARGUMENT, v -> line().reservoir(3, 5, v));
    }

    private static void right() {
        takes("4: right", 0, 39, NUMBER, v -> line().right(v, 5, 9, 10, 500, 4));
        takes("4: reach", 0, 31, NUMBER, v -> line().right(6, v, 9, 10, 500, 0));
        takes("4: priority", 1, 1000000, ARGUMENT, v -> line().right(6, 5, v, 10, 500, 4));
        takes("4: rate", 0, MOST, ARGUMENT, v -> line().right(6, 5, 9, v, 500, 4));
        takes("4: share", 0, 1000, ARGUMENT, v -> line().right(6, 5, 9, 10, v, 4));
        takes("4: return reach", 0, 31, NUMBER, v -> line().right(6, 31, 9, 10, 500, v));
    }

    private static RiverDesk lineWithReservoirs() {
        RiverDesk x = line();
        for (int i = 0; i < 8; i++) {
            x.reservoir(i, i, 10);
        }
        return x;
    }

    private static void storage() {
        takes("5: right", 0, 39, NUMBER, v -> lineWithReservoirs().storage(v, 5, 9, 10, 2));
        takes("5: reach", 0, 31, NUMBER, v -> lineWithReservoirs().storage(6, v, 9, 10, 2));
        takes("5: priority", 1, 1000000, ARGUMENT, v -> lineWithReservoirs().storage(6, 5, v, 10, 2));
        takes("5: rate", 0, MOST, ARGUMENT, v -> lineWithReservoirs().storage(6, 5, 9, v, 2));
        takes("5: reservoir", 0, 7, NUMBER, v -> lineWithReservoirs().storage(6, 5, 9, 10, v));
    }

    private static RiverDesk withRate(int rate) {
        RiverDesk x = line();
        x.right(6, 5, 9, rate, 500, 4);
        return x;
    }

    private static void rightsOfToday() {
        takes("6: drop", 0, 39, NUMBER, v -> full().drop(v));
        takes("7: right", 0, 39, NUMBER, v -> full().want(v, 7));
        takes("7: amount of the rate 50", 0, 50, ARGUMENT, v -> withRate(50).want(6, v));
        takes("7: amount of the rate 1", 0, 1, ARGUMENT, v -> withRate(1).want(6, v));
        takes("7: amount of the rate 0", 0, 0, ARGUMENT, v -> withRate(0).want(6, v));
        takes("7: amount of the most", 0, MOST, ARGUMENT, v -> withRate(MOST).want(6, v));
        takes("11: given", 0, 39, NUMBER, v -> full().given(v));
        takes("13: call", 0, 39, NUMBER, v -> full().call(v));
        takes("14: s", 0, 39, NUMBER, v -> full().futile(v, 20));
        takes("14: j", 0, 39, NUMBER, v -> full().futile(20, v));
    }

    private static void amountOfAWantIsOfItsRateAlone() {
        RiverDesk x = withRate(50);
        x.right(7, 5, 10, 60, 0, 5);
        x.want(6, 20);
        thrown("7: more than it wanted, up to the rate", null, () -> x.want(6, 50));
        thrown("7: the rate of another right", ARGUMENT, () -> x.want(6, 60));
        thrown("7: its own rate", null, () -> x.want(7, 60));
    }

    private static void water() {
        takes("8: reach", 0, 31, NUMBER, v -> line().inflow(v, 7));
        takes("8: amount", 0, MOST, ARGUMENT, v -> line().inflow(5, v));
        takes("9: reservoir", 0, 7, NUMBER, v -> full().release(v, 1, 0));
        takes("9: to", 0, 31, NUMBER, v -> full().release(0, 1, v));
        takes("12: reach", 0, 31, NUMBER, v -> full().flow(v, 0));
        takes("12: reach, released", 0, 31, NUMBER, v -> full().flow(v, 1));
        takes("12: reach, another what", 0, 31, NUMBER, v -> full().flow(v, 2));
        thrown("9: amount 0", null, () -> full().release(0, 0, 0));
        thrown("9: amount 50, all that it holds", null, () -> full().release(0, 50, 0));
        thrown("9: amount 51", STATE, () -> full().release(0, 51, 0));
        thrown("9: the largest amount", STATE, () -> full().release(0, Integer.MAX_VALUE, 0));
        thrown("9: amount -1", ARGUMENT, () -> full().release(0, -1, 0));
        thrown("9: the least amount", ARGUMENT, () -> full().release(0, Integer.MIN_VALUE, 0));
    }

    private static void answeredWithNone() {
        answers("12: what", 0, 1, v -> full().flow(3, v));
        answers("16: reservoir", 0, 7, v -> full().held(v, 0));
        answers("16: reservoir's capacity", 0, 7, v -> full().held(v, 1));
        answers("16: reservoir's reach", 0, 7, v -> full().held(v, 2));
        answers("16: what", 0, 2, v -> full().held(3, v));
        answers("17: what", 0, 4, v -> full().book(0, v));
        answers("17: day", 0, 0, v -> full().book(v, 0));
        answers("18: right", 0, 39, v -> full().about(v, 0));
        answers("18: right's rate", 0, 39, v -> full().about(v, 1));
        answers("18: right's want", 0, 39, v -> full().about(v, 2));
        answers("18: right's share", 8, 39, v -> full().about(v, 3));
        answers("18: right's reservoir", 0, 7, v -> full().about(v, 4));
        answers("18: what of a direct one", 0, 3, v -> full().about(20, v));
        for (int what : new int[] {3, 5, 6, -1, Integer.MAX_VALUE, Integer.MIN_VALUE}) {
            due("18: what of a storage one " + what, -1, full().about(2, what));
        }
        due("18: reservoir of a storage one", 2, full().about(2, 4));
        answers("19: k", 0, 39, v -> full().aged(v));
        for (int v : new int[] {-1, 0, 1, 31, 32}) {
            int number = v;
            thrown("16: none such throws nothing", null, () -> new RiverDesk().held(number, number));
            thrown("17: none such throws nothing", null, () -> new RiverDesk().book(number, number));
            thrown("18: none such throws nothing", null, () -> new RiverDesk().about(number, number));
            thrown("19: none such throws nothing", null, () -> new RiverDesk().aged(number));
        }
    }

    private static void numbersAreNotMixed() {
        RiverDesk x = full();
        for (int i = 0; i < 8; i++) {
            due("16: held", 50, x.held(i, 0));
            due("16: capacity", 60, x.held(i, 1));
            due("16: reach", 31 - i, x.held(i, 2));
            due("18: priority of a storage one", 40 - i, x.about(i, 0));
            due("18: its reservoir", i, x.about(i, 4));
        }
        for (int i = 8; i < 40; i++) {
            due("18: priority of a direct one", 1000 - i, x.about(i, 0));
        }
        for (int k = 0; k < 40; k++) {
            due("19: by age " + k, k < 8 ? 7 - k : 47 - k, x.aged(k));
        }
    }

    public static void main(String[] args) {
        reach();
        reservoir();
        right();
        storage();
        rightsOfToday();
        amountOfAWantIsOfItsRateAlone();
        water();
        answeredWithNone();
        numbersAreNotMixed();
        finish("all bounds are as due");
    }
}
