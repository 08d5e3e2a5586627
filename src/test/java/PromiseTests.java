/** For each promise of the document its ordinary inputs, the edges that it names, and wrong inputs. */
public final class PromiseTests extends Checks {
    /** Reaches 0 (the outlet), 1 above it, and 2 and 3 above 1. */
    private static RiverDesk fork() {
        RiverDesk x = new RiverDesk();
        x.reach(0, -1);
        x.reach(1, 0);
        x.reach(2, 1);
        x.reach(3, 1);
        return x;
    }

    private static void promise1() {
        due("NONE", -1, RiverDesk.NONE);
        RiverDesk x = new RiverDesk();
        for (int i = 0; i < 32; i++) {
            int reach = i;
            thrown("1: flow of a reach in a new object", MISSING, () -> x.flow(reach, 0));
        }
        for (int i = 0; i < 40; i++) {
            int right = i;
            thrown("1: given of a right in a new object", MISSING, () -> x.given(right));
            due("1: about", -1, x.about(right, 0));
        }
        for (int i = 0; i < 8; i++) {
            due("1: held", -1, x.held(i, 0));
        }
        due("1: aged(0)", -1, x.aged(0));
        due("1: plan()", 0, x.plan());
        due("1: book(0, 0)", -1, x.book(0, 0));
        due("1: close()", 1, x.close());
        for (int what = 0; what < 5; what++) {
            due("1: the books of a day without a river", 0, x.book(0, what));
        }
        RiverDesk one = fork();
        due("1: another object is on its own", -1, new RiverDesk().held(0, 0));
        due("1: a fork has no rights", -1, one.aged(0));
    }

    private static void promise2() {
        RiverDesk x = new RiverDesk();
        thrown("2: below is missing", MISSING, () -> x.reach(1, 0));
        thrown("2: a reach above itself", MISSING, () -> x.reach(1, 1));
        thrown("2: number -1", NUMBER, () -> x.reach(-1, -1));
        thrown("2: number 32", NUMBER, () -> x.reach(32, -1));
        thrown("2: below -2", NUMBER, () -> x.reach(0, -2));
        thrown("2: below 32", NUMBER, () -> x.reach(0, 32));
        thrown("2: a wrong number goes before a missing one", NUMBER, () -> x.reach(32, 5));
        thrown("2: the outlet", null, () -> x.reach(31, -1));
        thrown("2: a second outlet", STATE, () -> x.reach(30, -1));
        thrown("2: the same outlet again", STATE, () -> x.reach(31, -1));
        thrown("2: above the outlet", null, () -> x.reach(0, 31));
        thrown("2: it is there", STATE, () -> x.reach(0, 31));
        thrown("2: it is there, above itself", STATE, () -> x.reach(0, 0));
        thrown("2: missing goes before there", MISSING, () -> x.reach(0, 5));
        x.inflow(0, 7);
        due("2: it flows to the other one", 7, x.flow(31, 0));
        due("2: its own flow", 7, x.flow(0, 0));
        thrown("2: a refused reach is not there", MISSING, () -> x.flow(30, 0));
        RiverDesk line = new RiverDesk();
        line.reach(0, -1);
        for (int i = 1; i < 32; i++) {
            line.reach(i, i - 1);
        }
        line.inflow(31, 9);
        line.right(0, 31, 1, 5, 0, 0);
        for (int i = 0; i < 32; i++) {
            due("2: a line of all reaches", 4, line.flow(i, 0));
        }
        line.right(1, 0, 2, 3, 0, 0);
        line.right(2, 31, 3, 9, 0, 31);
        due("2: the outlet binds the other end of the line", 1, line.given(2));
        line.reservoir(0, 31, 9);
        line.storage(3, 31, 4, 9, 0);
        line.drop(0);
        line.drop(2);
        line.close();
        line.inflow(31, 9);
        line.close();
        line.release(0, 2, 0);
        for (int i = 0; i < 32; i++) {
            due("2: released water passes the whole line", 2, line.flow(i, 1));
        }
    }

    private static void promise3() {
        RiverDesk x = fork();
        thrown("3: a reservoir", null, () -> x.reservoir(7, 2, MOST));
        due("3: held", 0, x.held(7, 0));
        due("3: capacity", MOST, x.held(7, 1));
        due("3: reach", 2, x.held(7, 2));
        thrown("3: capacity 0", null, () -> x.reservoir(0, 0, 0));
        due("3: capacity 0 is kept", 0, x.held(0, 1));
        thrown("3: it is there", STATE, () -> x.reservoir(0, 1, 5));
        due("3: a refused one changes nothing", 0, x.held(0, 1));
        thrown("3: capacity -1", ARGUMENT, () -> x.reservoir(1, 0, -1));
        thrown("3: capacity over the most", ARGUMENT, () -> x.reservoir(1, 0, MOST + 1));
        thrown("3: argument goes before state", ARGUMENT, () -> x.reservoir(0, 0, -1));
        thrown("3: missing goes before argument", MISSING, () -> x.reservoir(0, 9, -1));
        thrown("3: number -1", NUMBER, () -> x.reservoir(-1, 9, -1));
        thrown("3: number 8", NUMBER, () -> x.reservoir(8, 0, 1));
        thrown("3: reach 32", NUMBER, () -> x.reservoir(1, 32, 1));
        thrown("3: reach -1", NUMBER, () -> x.reservoir(1, -1, 1));
        due("3: a refused one is not there", -1, x.held(1, 1));
    }

    private static void promise4() {
        RiverDesk x = fork();
        thrown("4: a right", null, () -> x.right(39, 2, 1000000, MOST, 1000, 0));
        due("4: priority", 1000000, x.about(39, 0));
        due("4: rate", MOST, x.about(39, 1));
        due("4: it wants its rate", MOST, x.about(39, 2));
        due("4: share", 1000, x.about(39, 3));
        due("4: no reservoir", -1, x.about(39, 4));
        thrown("4: the least of all", null, () -> x.right(0, 2, 1, 0, 0, 2));
        thrown("4: it is there", STATE, () -> x.right(0, 2, 2, 0, 0, 2));
        thrown("4: its priority is there", STATE, () -> x.right(1, 2, 1, 0, 0, 2));
        thrown("4: priority 0", ARGUMENT, () -> x.right(1, 2, 0, 0, 0, 2));
        thrown("4: priority 1000001", ARGUMENT, () -> x.right(1, 2, 1000001, 0, 0, 2));
        thrown("4: rate -1", ARGUMENT, () -> x.right(1, 2, 5, -1, 0, 2));
        thrown("4: rate over the most", ARGUMENT, () -> x.right(1, 2, 5, MOST + 1, 0, 2));
        thrown("4: share -1", ARGUMENT, () -> x.right(1, 2, 5, 1, -1, 2));
        thrown("4: share 1001", ARGUMENT, () -> x.right(1, 2, 5, 1, 1001, 2));
        thrown("4: it returns above", ARGUMENT, () -> x.right(1, 1, 5, 1, 0, 2));
        thrown("4: it returns beside", ARGUMENT, () -> x.right(1, 2, 5, 1, 0, 3));
        thrown("4: argument goes before state", ARGUMENT, () -> x.right(0, 2, 1, 1, 0, 3));
        thrown("4: reach is missing", MISSING, () -> x.right(0, 9, 0, 1, 0, 2));
        thrown("4: return reach is missing", MISSING, () -> x.right(0, 2, 0, 1, 0, 9));
        thrown("4: number 40", NUMBER, () -> x.right(40, 9, 1, 1, 0, 2));
        thrown("4: number -1", NUMBER, () -> x.right(-1, 2, 1, 1, 0, 2));
        thrown("4: reach 32", NUMBER, () -> x.right(1, 32, 1, 1, 0, 9));
        thrown("4: return reach -1", NUMBER, () -> x.right(1, 9, 1, 1, 0, -1));
        thrown("4: return reach 32", NUMBER, () -> x.right(1, 2, 1, 1, 0, 32));
        due("4: a refused one is not there", -1, x.about(1, 0));
    }

    private static void promise5() {
        RiverDesk x = fork();
        x.reservoir(3, 3, 100);
        thrown("5: a storage right far from its reservoir", null, () -> x.storage(4, 2, 1000000, MOST, 3));
        due("5: priority", 1000000, x.about(4, 0));
        due("5: rate", MOST, x.about(4, 1));
        due("5: it wants its rate", MOST, x.about(4, 2));
        due("5: no share", -1, x.about(4, 3));
        due("5: reservoir", 3, x.about(4, 4));
        x.inflow(2, 30);
        due("5: all goes to the reservoir", 30, x.given(4));
        due("5: nothing comes back", 0, x.flow(0, 0));
        thrown("5: it is there", STATE, () -> x.storage(4, 2, 7, 1, 3));
        thrown("5: its priority is there", STATE, () -> x.storage(5, 2, 1000000, 1, 3));
        thrown("5: a direct one with its priority", STATE, () -> x.right(5, 2, 1000000, 1, 0, 2));
        thrown("5: priority 0", ARGUMENT, () -> x.storage(4, 2, 0, 1, 3));
        thrown("5: priority 1000001", ARGUMENT, () -> x.storage(5, 2, 1000001, 1, 3));
        thrown("5: rate -1", ARGUMENT, () -> x.storage(5, 2, 1, -1, 3));
        thrown("5: rate over the most", ARGUMENT, () -> x.storage(5, 2, 1, MOST + 1, 3));
        thrown("5: reach is missing", MISSING, () -> x.storage(5, 9, 0, 1, 3));
        thrown("5: reservoir is missing", MISSING, () -> x.storage(5, 2, 0, 1, 4));
        thrown("5: reservoir 8", NUMBER, () -> x.storage(5, 9, 1, 1, 8));
        thrown("5: reservoir -1", NUMBER, () -> x.storage(5, 2, 1, 1, -1));
        thrown("5: reach 32", NUMBER, () -> x.storage(5, 32, 1, 1, 4));
        thrown("5: number 40", NUMBER, () -> x.storage(40, 2, 1, 1, 3));
        due("5: a refused one is not there", -1, x.about(5, 0));
    }

    private static void promise6() {
        RiverDesk x = fork();
        x.reservoir(0, 1, 50);
        x.right(0, 2, 10, 5, 300, 2);
        x.storage(1, 2, 20, 5, 0);
        x.inflow(2, 5);
        thrown("6: number 40", NUMBER, () -> x.drop(40));
        thrown("6: number -1", NUMBER, () -> x.drop(-1));
        thrown("6: it is not there", MISSING, () -> x.drop(2));
        due("6: before", 1, x.given(1));
        thrown("6: it goes", null, () -> x.drop(0));
        thrown("6: it is gone", MISSING, () -> x.drop(0));
        due("6: nothing about it", -1, x.about(0, 0));
        due("6: the younger one gets its water", 5, x.given(1));
        due("6: the younger one is the oldest now", 1, x.aged(0));
        due("6: and the only one", -1, x.aged(1));
        thrown("6: number and priority are free, for the other kind", null, () -> x.storage(0, 2, 10, 8, 0));
        due("6: it wants its new rate", 8, x.about(0, 2));
        due("6: it has no share now", -1, x.about(0, 3));
        thrown("6: and back again", null, () -> x.drop(0));
        thrown("6: as a direct one", null, () -> x.right(0, 2, 10, 5, 300, 2));
        due("6: it has no reservoir now", -1, x.about(0, 4));
        x.drop(1);
        thrown("6: the youngest one's priority is free too", null, () -> x.right(2, 2, 20, 5, 0, 2));
    }

    private static void promise7() {
        RiverDesk x = fork();
        x.right(0, 2, 10, 50, 0, 2);
        x.inflow(2, 100);
        thrown("7: less", null, () -> x.want(0, 20));
        due("7: it wants that", 20, x.about(0, 2));
        due("7: its rate stays", 50, x.about(0, 1));
        due("7: it gets that", 20, x.given(0));
        thrown("7: nothing", null, () -> x.want(0, 0));
        due("7: it gets nothing", 0, x.given(0));
        due("7: and is not short", 0, x.plan());
        thrown("7: its rate", null, () -> x.want(0, 50));
        due("7: it gets its rate", 50, x.given(0));
        thrown("7: over its rate", ARGUMENT, () -> x.want(0, 51));
        thrown("7: below 0", ARGUMENT, () -> x.want(0, -1));
        due("7: a refused want changes nothing", 50, x.about(0, 2));
        thrown("7: it is not there", MISSING, () -> x.want(1, -1));
        thrown("7: number 40", NUMBER, () -> x.want(40, -1));
        thrown("7: number -1", NUMBER, () -> x.want(-1, 0));
    }

    private static void promise8() {
        RiverDesk x = fork();
        due("8: none at first", 0, x.flow(2, 0));
        thrown("8: the most", null, () -> x.inflow(2, MOST));
        thrown("8: the most", null, () -> x.inflow(3, MOST));
        thrown("8: the most", null, () -> x.inflow(1, MOST));
        due("8: they flow together", 3L * MOST, x.flow(0, 0));
        thrown("8: instead of what was", null, () -> x.inflow(2, 4));
        due("8: only the last counts", 4, x.flow(2, 0));
        thrown("8: over the most", ARGUMENT, () -> x.inflow(2, MOST + 1));
        thrown("8: below 0", ARGUMENT, () -> x.inflow(2, -1));
        due("8: a refused inflow changes nothing", 4, x.flow(2, 0));
        thrown("8: none", null, () -> x.inflow(2, 0));
        due("8: none", 0, x.flow(2, 0));
        thrown("8: it is not there", MISSING, () -> x.inflow(9, -1));
        thrown("8: number 32", NUMBER, () -> x.inflow(32, -1));
        thrown("8: number -1", NUMBER, () -> x.inflow(-1, 0));
    }

    /** The fork with reservoir 0 beside reach 2, which holds 80 of 100 on day 1. */
    private static RiverDesk filled() {
        RiverDesk x = fork();
        x.reservoir(0, 2, 100);
        x.storage(0, 2, 5, 200, 0);
        x.inflow(2, 80);
        x.close();
        return x;
    }

    private static void promise9() {
        RiverDesk x = filled();
        due("9: release", 50, x.release(0, 30, 1));
        due("9: it holds that", 50, x.held(0, 0));
        due("9: besides what was", 40, x.release(0, 10, 0));
        due("9: nothing", 40, x.release(0, 0, 2));
        thrown("9: it holds less", STATE, () -> x.release(0, 41, 0));
        thrown("9: below 0", ARGUMENT, () -> x.release(0, -1, 0));
        thrown("9: not on the path", ARGUMENT, () -> x.release(0, 1, 3));
        thrown("9: argument goes before state", ARGUMENT, () -> x.release(0, 41, 3));
        thrown("9: the reach is missing", MISSING, () -> x.release(0, -1, 9));
        thrown("9: the reservoir is missing", MISSING, () -> x.release(1, -1, 0));
        thrown("9: reservoir 8", NUMBER, () -> x.release(8, 1, 9));
        thrown("9: reservoir -1", NUMBER, () -> x.release(-1, 1, 0));
        thrown("9: reach 32", NUMBER, () -> x.release(1, 1, 32));
        thrown("9: reach -1", NUMBER, () -> x.release(0, 1, -1));
        due("9: a refused release changes nothing", 40, x.held(0, 0));
        due("9: all of it", 0, x.release(0, 40, 2));
        due("9: all that was released comes through", 80, x.flow(2, 1));
    }

    private static void promise10() {
        RiverDesk x = fork();
        x.right(0, 2, 30, 100, 0, 2);
        x.right(1, 3, 20, 100, 0, 3);
        x.right(2, 0, 10, 100, 0, 0);
        due("10: all are short of water", 3, x.plan());
        x.want(1, 0);
        due("10: who wants nothing is not short", 2, x.plan());
        x.inflow(2, 150);
        due("10: the youngest is left with the rest", 1, x.plan());
        x.inflow(3, 50);
        due("10: nobody is short", 0, x.plan());
        x.want(1, 100);
        due("10: two share what the oldest leaves", 2, x.plan());
        due("10: asked again", 2, x.plan());
    }

    private static void promise11() {
        RiverDesk x = fork();
        x.right(0, 2, 30, 1000, 500, 1);
        x.right(1, 1, 40, 1000, 0, 1);
        x.inflow(2, 101);
        due("11: all that is there", 101, x.given(0));
        due("11: the cut return, for the younger one", 50, x.given(1));
        x.right(2, 0, 20, 70, 0, 0);
        due("11: the oldest at the outlet", 70, x.given(2));
        due("11: of 63, 31 come back, of 62 as well", 62, x.given(0));
        due("11: nothing is left", 0, x.given(1));
        x.right(3, 2, 10, MOST, 1000, 2);
        due("11: who gives all back where it diverts leaves the flow as it is", MOST, x.given(3));
        due("11: and no one loses by it", 62, x.given(0));
        thrown("11: it is not there", MISSING, () -> x.given(4));
        thrown("11: number 40", NUMBER, () -> x.given(40));
        thrown("11: number -1", NUMBER, () -> x.given(-1));

        RiverDesk beyond = fork();
        beyond.right(0, 2, 1, MOST, 900, 2);
        beyond.inflow(2, 7);
        due("11: what comes back at once is diverted again", 70, beyond.given(0));
        due("11: all is used", 0, beyond.flow(2, 0));
        beyond.inflow(2, MOST);
        due("11: no more than its rate", MOST, beyond.given(0));

        RiverDesk stored = filled();
        stored.inflow(2, 90);
        due("11: no more than the room", 20, stored.given(0));
        stored.release(0, 30, 0);
        due("11: a release makes room today", 50, stored.given(0));
        due("11: and is no natural flow", 40, stored.flow(0, 0));
        stored.storage(1, 2, 3, 15, 0);
        due("11: an older right to the same reservoir", 15, stored.given(1));
        due("11: leaves less room", 35, stored.given(0));
    }

    private static void promise12() {
        RiverDesk x = fork();
        x.inflow(0, 1);
        x.inflow(1, 10);
        x.inflow(2, 100);
        x.inflow(3, 1000);
        x.right(0, 2, 1, 50, 399, 0);
        due("12: less what is diverted", 50, x.flow(2, 0));
        due("12: beside it", 1000, x.flow(3, 0));
        due("12: between reach and return", 1060, x.flow(1, 0));
        due("12: with the cut return", 1080, x.flow(0, 0));
        due("12: nothing is released", 0, x.flow(0, 1));
        due("12: what 2", -1, x.flow(0, 2));
        due("12: what -1", -1, x.flow(0, -1));
        thrown("12: it is not there, whatever is asked", MISSING, () -> x.flow(9, 2));
        thrown("12: number 32, whatever is asked", NUMBER, () -> x.flow(32, 2));
        thrown("12: number -1", NUMBER, () -> x.flow(-1, 0));

        RiverDesk released = filled();
        released.release(0, 10, 1);
        due("12: it passes the reach that it is sent from", 10, released.flow(2, 1));
        due("12: it comes there", 10, released.flow(1, 1));
        due("12: it is used there", 0, released.flow(0, 1));
        due("12: it passes no other one", 0, released.flow(3, 1));
        released.release(0, 5, 0);
        due("12: both pass", 15, released.flow(1, 1));
        due("12: one comes there", 5, released.flow(0, 1));
        due("12: released water is not natural", 0, released.flow(1, 0));
        released.close();
        due("12: a new day", 0, released.flow(1, 1));
    }

    private static void promise13() {
        RiverDesk x = fork();
        x.right(0, 2, 40, 100, 0, 2);
        x.right(1, 1, 30, 100, 0, 1);
        x.right(2, 3, 20, 100, 0, 3);
        x.right(3, 0, 10, 100, 0, 0);
        x.inflow(2, 60);
        x.inflow(3, 60);
        due("13: the oldest is not short", -1, x.call(3));
        due("13: 3 gets 100, so 20 are left", 20, x.given(2));
        due("13: who has no more to take from than the oldest's", 3, x.call(2));
        due("13: below, one of the others loses first", 2, x.call(1));
        due("13: beside", 2, x.call(0));
        x.inflow(2, 0);
        due("13: no water comes there", -1, x.call(0));
        thrown("13: it is not there", MISSING, () -> x.call(4));
        thrown("13: number 40", NUMBER, () -> x.call(40));
        thrown("13: number -1", NUMBER, () -> x.call(-1));

        RiverDesk rounded = fork();
        rounded.right(0, 2, 1, 2, 500, 2);
        rounded.right(1, 2, 2, 1, 0, 2);
        rounded.inflow(2, 1);
        due("13: rounded: 2 for 1", 2, rounded.given(0));
        due("13: rounded: the older one loses", 0, rounded.call(1));

        RiverDesk stored = filled();
        stored.storage(1, 3, 4, 20, 0);
        stored.inflow(2, 10);
        stored.inflow(3, 90);
        due("13: the room is full", 0, stored.given(0));
        due("13: room is called as water is", 1, stored.call(0));
        stored.drop(1);
        stored.inflow(2, 90);
        due("13: room that is not there is called of nobody", -1, stored.call(0));
    }

    private static void promise14() {
        RiverDesk x = fork();
        x.right(0, 2, 10, 60, 0, 2);
        x.right(1, 3, 20, 60, 0, 3);
        x.right(2, 2, 30, 60, 0, 2);
        x.right(3, 3, 40, 60, 0, 3);
        x.inflow(2, 60);
        x.inflow(3, 80);
        due("14: on another branch", true, x.futile(0, 1));
        due("14: above the short one", false, x.futile(0, 2));
        due("14: on its own branch", false, x.futile(1, 3));
        due("14: the other branch", true, x.futile(0, 3));
        due("14: a younger one", true, x.futile(3, 1));
        due("14: itself, with something", false, x.futile(1, 1));
        due("14: itself, with nothing", true, x.futile(2, 2));
        due("14: nothing is changed by asking", 60, x.given(0));
        x.want(0, 0);
        due("14: who wants nothing anyway", true, x.futile(0, 2));
        thrown("14: s is missing", MISSING, () -> x.futile(9, 1));
        thrown("14: j is missing", MISSING, () -> x.futile(1, 9));
        thrown("14: s is 40", NUMBER, () -> x.futile(40, 9));
        thrown("14: j is 40", NUMBER, () -> x.futile(9, 40));
        thrown("14: s is -1", NUMBER, () -> x.futile(-1, 1));
        thrown("14: j is -1", NUMBER, () -> x.futile(1, -1));

        RiverDesk less = fork();
        less.reservoir(0, 0, 50);
        less.storage(0, 2, 10, 50, 0);
        less.storage(1, 3, 20, 50, 0);
        less.right(2, 3, 30, 50, 0, 3);
        less.inflow(2, 50);
        less.inflow(3, 50);
        due("14: it gets all beside the full reservoir", 50, less.given(2));
        due("14: less is not as much", false, less.futile(0, 2));
    }

    private static void promise15() {
        RiverDesk x = filled();
        due("15: stored", 80, x.held(0, 0));
        due("15: no inflow", 0, x.flow(2, 0));
        x.right(1, 2, 4, 30, 0, 2);
        x.want(1, 3);
        x.want(0, 1);
        x.inflow(2, 50);
        x.inflow(3, 5);
        x.release(0, 60, 1);
        due("15: the next day", 2, x.close());
        due("15: stored besides, after the release", 21, x.held(0, 0));
        due("15: wants are the rates, for direct ones", 30, x.about(1, 2));
        due("15: and for storage", 200, x.about(0, 2));
        due("15: no inflow", 0, x.flow(0, 0));
        due("15: no releases", 0, x.flow(1, 1));
        due("15: the next day", 3, x.close());
        due("15: nothing flowed in", 21, x.held(0, 0));
        due("15: rights stay", 0, x.aged(1));
    }

    private static void promise16() {
        RiverDesk x = filled();
        due("16: held", 80, x.held(0, 0));
        due("16: capacity", 100, x.held(0, 1));
        due("16: reach", 2, x.held(0, 2));
        due("16: what 3", -1, x.held(0, 3));
        due("16: what -1", -1, x.held(0, -1));
        due("16: not there", -1, x.held(7, 0));
        due("16: number 8", -1, x.held(8, 0));
        due("16: number -1", -1, x.held(-1, 0));
        x.inflow(2, 500);
        due("16: not before the day is closed", 80, x.held(0, 0));
        x.close();
        due("16: never over the capacity", 100, x.held(0, 0));
    }

    private static void promise17() {
        RiverDesk x = filled();
        x.right(1, 3, 6, 40, 250, 1);
        x.inflow(2, 50);
        x.inflow(3, 31);
        x.inflow(0, 3);
        x.release(0, 15, 1);
        due("17: today is not closed", -1, x.book(1, 0));
        x.close();
        due("17: inflow", 84, x.book(1, 0));
        due("17: outflow", 25, x.book(1, 1));
        due("17: used: 31 less 7, and 15", 39, x.book(1, 2));
        due("17: stored", 35, x.book(1, 3));
        due("17: released", 15, x.book(1, 4));
        due("17: what 5", -1, x.book(1, 5));
        due("17: what -1", -1, x.book(1, -1));
        due("17: day 0", 80, x.book(0, 0));
        due("17: today", -1, x.book(2, 0));
        due("17: day -1", -1, x.book(-1, 0));
        due("17: the last day of all", -1, x.book(Integer.MAX_VALUE, 0));
        due("17: the first day of all", -1, x.book(Integer.MIN_VALUE, 0));

        RiverDesk days = fork();
        for (int day = 0; day < 100; day++) {
            days.inflow(2, day + 1);
            days.close();
            int oldest = Math.max(0, day - 59);
            due("17: the oldest of the latest 60", oldest + 1, days.book(oldest, 0));
            due("17: the one before", -1, days.book(oldest - 1, 0));
            due("17: the latest", day + 1, days.book(day, 1));
        }

        RiverDesk most = new RiverDesk();
        most.reach(0, -1);
        for (int i = 1; i < 32; i++) {
            most.reach(i, 0);
        }
        for (int i = 0; i < 32; i++) {
            most.inflow(i, MOST);
            most.right(i, i, i + 1, MOST, i < 16 ? 0 : 1000, 0);
        }
        most.close();
        due("17: more than an int holds", 32L * MOST, most.book(0, 0));
        due("17: outflow", 16L * MOST, most.book(0, 1));
        due("17: used", 16L * MOST, most.book(0, 2));
    }

    private static void promise18() {
        RiverDesk x = fork();
        x.reservoir(6, 1, 5);
        x.right(0, 2, 10, 50, 250, 1);
        x.storage(1, 2, 20, 60, 6);
        x.want(0, 7);
        int[] direct = {10, 50, 7, 250, -1};
        int[] stored = {20, 60, 60, -1, 6};
        for (int what = 0; what < 5; what++) {
            due("18: a direct right", direct[what], x.about(0, what));
            due("18: a storage right", stored[what], x.about(1, what));
        }
        due("18: what 5", -1, x.about(0, 5));
        due("18: what -1", -1, x.about(0, -1));
        due("18: not there", -1, x.about(2, 0));
        due("18: number 40", -1, x.about(40, 0));
        due("18: number -1", -1, x.about(-1, 0));
    }

    private static void promise19() {
        RiverDesk x = fork();
        x.reservoir(0, 0, 5);
        x.right(5, 2, 300, 1, 0, 2);
        x.right(6, 2, 100, 1, 0, 2);
        x.storage(7, 2, 200, 1, 0);
        x.right(8, 2, 400, 1, 0, 2);
        int[] order = {6, 7, 5, 8};
        for (int k = 0; k < 4; k++) {
            due("19: by age", order[k], x.aged(k));
        }
        due("19: too many", -1, x.aged(4));
        due("19: below 0", -1, x.aged(-1));
        x.drop(7);
        due("19: after a drop", 5, x.aged(1));
        due("19: one less", -1, x.aged(3));
        for (int i = 0; i < 40; i++) {
            int right = i;
            if (x.about(right, 0) == -1) {
                x.right(right, 2, 1000 - right, 1, 0, 2);
            }
        }
        due("19: of all 40 the youngest", 0, x.aged(39));
        due("19: none behind it", -1, x.aged(40));
        due("19: the oldest", 6, x.aged(0));
        due("19: the oldest of those that came", 39, x.aged(3));
    }

    public static void main(String[] args) {
        promise1();
        promise2();
        promise3();
        promise4();
        promise5();
        promise6();
        promise7();
        promise8();
        promise9();
        promise10();
        promise11();
        promise12();
        promise13();
        promise14();
        promise15();
        promise16();
        promise17();
        promise18();
        promise19();
        finish("all promises hold");
    }
}
