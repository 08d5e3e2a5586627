/**
 * Small rivers, for which every plan that there is can be tried: THE plan, calls, futile stops, flows and books
 * are found here by the words of the document alone, and not by going from the oldest right to the youngest.
 */
public final class SmallRiversTest {
    private static final int[] SHARES = {0, 1, 250, 333, 500, 667, 900, 999, 1000};
    private static final int RIVERS = 6000;

    private static int wrong = 0;
    private static long seed = 20261115;

    private int reaches;
    private int[] below;
    private int[] inflow;
    private int rights;
    private int[] reachOf;
    private int[] shareOf;
    private int[] returnOf;
    private int[] reservoirOf;
    private int[] wants;
    private int[] room;

    private static int below(int bound) {
        seed = seed * 6364136223846793005L + 1442695040888963407L;
        return (int) ((seed >>> 33) % bound);
    }

    private static void due(String what, long want, long got) {
        if (got != want) {
            wrong++;
            if (wrong < 20) {
                System.out.println(what + " answered " + got + ", due is " + want);
            }
        }
    }

    private boolean onPath(int reach, int from) {
        for (int at = from; at >= 0; at = below[at]) {
            if (at == reach) {
                return true;
            }
        }
        return false;
    }

    private int comesBack(int right, int amount) {
        return reservoirOf[right] >= 0 ? 0 : amount * shareOf[right] / 1000;
    }

    private int naturalFlow(int[] plan, int reach) {
        int flow = 0;
        for (int above = 0; above < reaches; above++) {
            if (!onPath(reach, above)) {
                continue;
            }
            flow += inflow[above];
            for (int right = 0; right < rights; right++) {
                flow -= reachOf[right] == above ? plan[right] : 0;
                flow += returnOf[right] == above ? comesBack(right, plan[right]) : 0;
            }
        }
        return flow;
    }

    private boolean holds(int[] plan) {
        for (int reservoir = 0; reservoir < room.length; reservoir++) {
            int all = 0;
            for (int right = 0; right < rights; right++) {
                all += reservoirOf[right] == reservoir ? plan[right] : 0;
            }
            if (all > room[reservoir]) {
                return false;
            }
        }
        for (int reach = 0; reach < reaches; reach++) {
            if (naturalFlow(plan, reach) < 0) {
                return false;
            }
        }
        return true;
    }

    /** Rights are numbered by age here, so the first plan that holds, tried from the top down, gives most. */
    private int[] best(int stopped, int fixed, int amount) {
        int[] plan = new int[rights];
        return search(plan, 0, stopped, fixed, amount) ? plan : null;
    }

    private boolean search(int[] plan, int right, int stopped, int fixed, int amount) {
        if (right == rights) {
            return holds(plan);
        }
        int top = right == stopped ? 0 : right == fixed ? amount : wants[right];
        int bottom = right == fixed ? amount : 0;
        for (plan[right] = top; plan[right] >= bottom; plan[right]--) {
            if (search(plan, right + 1, stopped, fixed, amount)) {
                return true;
            }
        }
        return false;
    }

    private int called(int[] the, int right) {
        if (the[right] >= wants[right]) {
            return -1;
        }
        int[] other = best(-1, right, the[right] + 1);
        for (int older = 0; other != null && older < rights; older++) {
            if (other[older] < the[older]) {
                return older;
            }
        }
        return -1;
    }

    private RiverDesk make() {
        RiverDesk desk = new RiverDesk();
        reaches = 1 + below(4);
        below = new int[reaches];
        inflow = new int[reaches];
        for (int reach = 0; reach < reaches; reach++) {
            below[reach] = reach == 0 ? -1 : below(reach);
            desk.reach(reach, below[reach]);
            inflow[reach] = below(6);
            desk.inflow(reach, inflow[reach]);
        }
        room = new int[2];
        for (int reservoir = 0; reservoir < room.length; reservoir++) {
            room[reservoir] = below(6);
            desk.reservoir(reservoir, below(reaches), room[reservoir]);
        }
        rights = 1 + below(4);
        reachOf = new int[rights];
        shareOf = new int[rights];
        returnOf = new int[rights];
        reservoirOf = new int[rights];
        wants = new int[rights];
        for (int right = 0; right < rights; right++) {
            makeRight(desk, right);
        }
        return desk;
    }

    private void makeRight(RiverDesk desk, int right) {
        reachOf[right] = below(reaches);
        int rate = below(7);
        if (below(3) == 0) {
            reservoirOf[right] = below(room.length);
            returnOf[right] = -1;
            desk.storage(right, reachOf[right], 10 + right, rate, reservoirOf[right]);
        } else {
            reservoirOf[right] = -1;
            shareOf[right] = SHARES[below(SHARES.length)];
            returnOf[right] = reachOf[right];
            for (int steps = below(3); steps > 0 && below[returnOf[right]] >= 0; steps--) {
                returnOf[right] = below[returnOf[right]];
            }
            desk.right(right, reachOf[right], 10 + right, rate, shareOf[right], returnOf[right]);
        }
        wants[right] = below(3) == 0 ? below(rate + 1) : rate;
        desk.want(right, wants[right]);
    }

    private void compare(RiverDesk desk, int river) {
        int[] the = best(-1, -1, 0);
        int shorts = 0;
        for (int right = 0; right < rights; right++) {
            shorts += the[right] < wants[right] ? 1 : 0;
            due("river " + river + ": given(" + right + ")", the[right], desk.given(right));
            due("river " + river + ": call(" + right + ")", called(the, right), desk.call(right));
            int[] stopped = best(right, -1, 0);
            for (int j = 0; j < rights; j++) {
                int futile = stopped[j] == the[j] ? 1 : 0;
                due("river " + river + ": futile(" + right + ", " + j + ")", futile, desk.futile(right, j) ? 1 : 0);
            }
        }
        due("river " + river + ": plan()", shorts, desk.plan());
        for (int reach = 0; reach < reaches; reach++) {
            due("river " + river + ": flow(" + reach + ", 0)", naturalFlow(the, reach), desk.flow(reach, 0));
        }
        compareBooks(desk, river, the);
    }

    private void compareBooks(RiverDesk desk, int river, int[] the) {
        int all = 0;
        for (int reach = 0; reach < reaches; reach++) {
            all += inflow[reach];
        }
        int used = 0;
        int stored = 0;
        for (int right = 0; right < rights; right++) {
            stored += reservoirOf[right] >= 0 ? the[right] : 0;
            used += reservoirOf[right] >= 0 ? 0 : the[right] - comesBack(right, the[right]);
        }
        desk.close();
        due("river " + river + ": INFLOW", all, desk.book(0, 0));
        due("river " + river + ": OUTFLOW", naturalFlow(the, 0), desk.book(0, 1));
        due("river " + river + ": USED", used, desk.book(0, 2));
        due("river " + river + ": STORED", stored, desk.book(0, 3));
        due("river " + river + ": RELEASED", 0, desk.book(0, 4));
        due("river " + river + ": balance", all, naturalFlow(the, 0) + used + stored);
    }

    public static void main(String[] args) {
        for (int river = 0; river < RIVERS; river++) {
            SmallRiversTest test = new SmallRiversTest();
            test.compare(test.make(), river);
        }
        System.out.println(wrong == 0 ? RIVERS + " small rivers are as due" : wrong + " answers are not as due");
        if (wrong != 0) {
            System.exit(1);
        }
    }
}
