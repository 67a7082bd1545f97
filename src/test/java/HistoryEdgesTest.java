/** The edges of HISTORY and of the promises 12 to 14. */
public final class HistoryEdgesTest {
    private static final Due DUE = new Due("HistoryEdgesTest");
    private static final Call[] ACTS = {x -> x.set(3, 4, 77), x -> x.turnOn(2, 9), x -> x.turnOff(0),
        x -> x.put(1, 31), x -> x.couple(1, 3), x -> x.pass(4), x -> x.perform(), x -> x.restore()};

    public static void main(String[] args) {
        emptyAtFirst();
        eachActRecordsItsState();
        noOtherCallRecords();
        fourStatesAreKept();
        theOldestIsDropped();
        undoOfMixedActs();
        undoThenActs();
        undoIsNoAct();
        undoLeavesAllElse();
        noSnapshotAtFirst();
        oneSnapshot();
        theSnapshotStays();
        restoreIsAnAct();
        restoreLeavesAllElse();
        restoreOfAllThatAStateIs();
        undoOfAllThatATrialIs();
        DUE.end();
    }

    private static void emptyAtFirst() {
        PlateSlabs x = new PlateSlabs();
        DUE.is("count(9)", x.count(9), 0);
        DUE.is("undo()", x.undo(), PlateSlabs.NONE);
        x.turnOn(0, 1);
        DUE.is("undo() of one", x.undo(), 0);
        DUE.is("undo() of none", x.undo(), PlateSlabs.NONE);
        DUE.is("it is off", x.pair(0, 10), 0);
        DUE.is("count(9)", x.count(9), 0);
    }

    /** "records the state that was before it": for each method that is described as an act */
    private static void eachActRecordsItsState() {
        for (int i = 0; i < ACTS.length; i++) {
            PlateSlabs x = Made.rich();
            x.undo();
            x.undo();
            DUE.is("two states are left", x.count(9), 2);
            long[] earlier = Sight.ofState(x);
            DUE.is("act " + i, ACTS[i].on(x) >= 0 ? 1 : 0, 1);
            DUE.is("act " + i + " is recorded once", x.count(9), 3);
            DUE.is("undo() of act " + i, x.undo(), 2);
            DUE.same("undo() of act " + i, Sight.ofState(x), earlier);
        }
    }

    private static void noOtherCallRecords() {
        Call[] calls = {x -> x.type('x'), x -> x.keep(), x -> x.stopped(0), x -> x.pair(0, 0), x -> x.book(0, 0),
            x -> x.reason(0), x -> x.force(0, 0), x -> x.restsIn(0), x -> x.depthIn(0, 5), x -> x.leastVoltage(0),
            x -> x.drawingVoltage(0), x -> x.strongest(), x -> x.count(0), x -> x.clearText()};
        PlateSlabs x = new PlateSlabs();
        x.turnOn(0, 10);
        for (int i = 0; i < calls.length; i++) {
            calls[i].on(x);
            DUE.is("states behind call " + i, x.count(9), 1);
        }
        DUE.is("undo()", x.undo(), 0);
        DUE.is("it is off", x.pair(0, 10), 0);
    }

    /** "A history of at most 4 states is kept" */
    private static void fourStatesAreKept() {
        for (int acts = 0; acts <= 9; acts++) {
            PlateSlabs x = new PlateSlabs();
            for (int depth = 1; depth <= acts; depth++) {
                x.put(0, depth);
            }
            int kept = Math.min(acts, 4);
            DUE.is("count(9) behind " + acts, x.count(9), kept);
            for (int left = kept - 1; left >= 0; left--) {
                DUE.is("undo()", x.undo(), left);
                DUE.is("count(9)", x.count(9), left);
                DUE.is("depth", x.pair(0, 6), acts - kept + left);
            }
            DUE.is("undo() of none", x.undo(), PlateSlabs.NONE);
            DUE.is("depth stays", x.pair(0, 6), acts - kept);
        }
    }

    /** "when one more is recorded, the oldest one is dropped": each kind of act may be the one more */
    private static void theOldestIsDropped() {
        for (int i = 0; i < ACTS.length; i++) {
            PlateSlabs x = Made.rich();
            PlateSlabs like = Made.rich();
            DUE.is("four states", x.count(9), 4);
            ACTS[i].on(x);
            DUE.is("still four states", x.count(9), 4);
            DUE.is("undo() of act " + i, x.undo(), 3);
            DUE.same("undo() of act " + i, Sight.ofState(x), Sight.ofState(like));
            for (int left = 2; left >= 0; left--) {
                DUE.is("undo()", x.undo(), left);
                like.undo();
            }
            DUE.same("the oldest but one", Sight.ofState(x), Sight.ofState(like));
            DUE.is("the oldest is dropped", x.undo(), PlateSlabs.NONE);
            DUE.is("it would have been left", like.undo(), 0);
        }
    }

    /** One object tells the states on the way to the last, another one those on the way back. */
    private static void undoOfMixedActs() {
        Call[] acts = {x -> x.pass(3), x -> x.couple(1, 3), x -> x.perform(), x -> x.restore()};
        PlateSlabs x = Made.rich();
        PlateSlabs like = Made.rich();
        long[][] states = new long[4][];
        for (int i = 0; i < 4; i++) {
            states[i] = Sight.ofState(like);
            acts[i].on(like);
            acts[i].on(x);
        }
        for (int left = 3; left >= 0; left--) {
            DUE.is("undo()", x.undo(), left);
            DUE.same("undo() to state " + left, Sight.ofState(x), states[left]);
        }
    }

    private static void undoThenActs() {
        PlateSlabs x = new PlateSlabs();
        x.put(0, 1);
        x.put(0, 2);
        x.put(0, 3);
        x.undo();
        x.undo();
        x.put(0, 30);
        DUE.is("count(9)", x.count(9), 2);
        DUE.is("undo()", x.undo(), 1);
        DUE.is("depth", x.pair(0, 6), 1);
        DUE.is("undo()", x.undo(), 0);
        DUE.is("depth", x.pair(0, 6), 0);
        for (int depth = 1; depth <= 4; depth++) {
            x.put(0, depth);
        }
        x.undo();
        x.put(0, 9);
        x.put(0, 10);
        DUE.is("count(9)", x.count(9), 4);
        int[] due = {9, 3, 2, 1};
        for (int depth : due) {
            x.undo();
            DUE.is("depth", x.pair(0, 6), depth);
        }
        DUE.is("undo() of none", x.undo(), PlateSlabs.NONE);
    }

    /** What was undone can't be brought back by one more undo(). */
    private static void undoIsNoAct() {
        PlateSlabs x = new PlateSlabs();
        x.put(0, 1);
        x.put(0, 2);
        DUE.is("undo()", x.undo(), 1);
        DUE.is("depth", x.pair(0, 6), 1);
        DUE.is("undo()", x.undo(), 0);
        DUE.is("depth", x.pair(0, 6), 0);
    }

    /** "A state is everything but the text, the history, the snapshot and the latest stop." */
    private static void undoLeavesAllElse() {
        PlateSlabs x = new PlateSlabs();
        x.put(0, 1);
        x.keep();
        Due.performed(x, "d0=2");
        Due.write(x, "d0=2;c11");
        x.perform();
        x.put(0, 5);
        x.undo();
        x.undo();
        x.undo();
        DUE.is("depth", x.pair(0, 6), 0);
        DUE.is("the text stays", x.count(10), 8);
        DUE.is("stopped(0) stays", x.stopped(0), 1);
        DUE.is("stopped(1) stays", x.stopped(1), PlateSlabs.BAD_VALUE);
        DUE.is("the snapshot stays", x.restore(), 0);
        DUE.is("its depth", x.pair(0, 6), 1);
        DUE.is("states", x.count(9), 1);
    }

    /** "There is one snapshot, empty at first." */
    private static void noSnapshotAtFirst() {
        PlateSlabs x = new PlateSlabs();
        DUE.is("restore()", x.restore(), PlateSlabs.NONE);
        x.pass(9);
        x.put(0, 9);
        DUE.is("restore()", x.restore(), PlateSlabs.NONE);
        DUE.is("tick", x.count(0), 9);
        DUE.is("states", x.count(9), 2);
        x.undo();
        DUE.is("restore()", x.restore(), PlateSlabs.NONE);
        DUE.is("keep()", x.keep(), 9);
        DUE.is("restore()", x.restore(), 9);
    }

    /** "Takes a snapshot of the state, in place of the one that was. Returns the tick." */
    private static void oneSnapshot() {
        PlateSlabs x = new PlateSlabs();
        DUE.is("keep() at 0", x.keep(), 0);
        x.pass(7);
        x.put(2, 8);
        DUE.is("keep() at 7", x.keep(), 7);
        DUE.is("keep() at 7 again", x.keep(), 7);
        x.pass(5);
        x.put(2, 9);
        DUE.is("restore() of the later one", x.restore(), 7);
        DUE.is("depth", x.pair(2, 6), 8);
        x.undo();
        x.undo();
        x.undo();
        x.undo();
        DUE.is("at 7 before it was put", x.pair(2, 6), 0);
        DUE.is("keep() of an earlier state", x.keep(), 7);
        DUE.is("restore()", x.restore(), 7);
        DUE.is("depth", x.pair(2, 6), 0);
    }

    /** "Restores the state of the snapshot, which stays." */
    private static void theSnapshotStays() {
        PlateSlabs x = Made.rich();
        x.keep();
        long[] kept = Sight.ofState(x);
        for (int i = 0; i < 3; i++) {
            x.perform();
            x.pass(20);
            x.set(0, 0, 9);
            DUE.is("restore()", x.restore(), 9);
            DUE.same("restore()", Sight.ofState(x), kept);
        }
    }

    /** "This is an act.": also if nothing changes by it; at the tick 0 it returns 0, which is no error. */
    private static void restoreIsAnAct() {
        PlateSlabs x = new PlateSlabs();
        x.keep();
        DUE.is("restore() of the same", x.restore(), 0);
        DUE.is("it is recorded", x.count(9), 1);
        DUE.is("restore() again", x.restore(), 0);
        DUE.is("it is recorded", x.count(9), 2);
        x.put(0, 3);
        x.restore();
        DUE.is("undo() of restore()", x.undo(), 3);
        DUE.is("depth before restore()", x.pair(0, 6), 3);
    }

    private static void restoreLeavesAllElse() {
        PlateSlabs x = new PlateSlabs();
        x.put(0, 1);
        Due.write(x, "o0");
        x.keep();
        x.put(0, 2);
        Due.performed(x, "o3;c22");
        x.put(0, 4);
        DUE.is("restore()", x.restore(), 0);
        DUE.is("the text stays", x.count(10), 6);
        DUE.is("stopped(0) stays", x.stopped(0), 1);
        DUE.is("stopped(1) stays", x.stopped(1), PlateSlabs.BAD_VALUE);
        DUE.is("the history grows", x.count(9), 4);
        int[] due = {4, 2, 1, 0};
        for (int depth : due) {
            x.undo();
            DUE.is("depth", x.pair(0, 6), depth);
        }
    }

    /** Each of the 55 numbers that a state is becomes another one, and is brought back. */
    private static void restoreOfAllThatAStateIs() {
        PlateSlabs x = Made.leaking();
        long[] before = Sight.ofState(x);
        x.keep();
        DUE.is("perform()", Due.performed(x, Made.ALL_OF_A_STATE), 12);
        for (int pair = 0; pair < 4; pair++) {
            for (int which = 0; which < 6; which++) {
                x.set(pair, which, 9);
            }
        }
        long[] behind = Sight.ofState(x);
        DUE.is("numbers that are changed", Sight.numbersThatDiffer(before, behind), 55);
        DUE.is("restore()", x.restore(), 0);
        DUE.same("restore()", Sight.ofState(x), before);
        DUE.is("undo()", x.undo(), 3);
        DUE.same("undo()", Sight.ofState(x), behind);
        DUE.is("restore() once more", x.restore(), 0);
        DUE.same("restore() once more", Sight.ofState(x), before);
    }

    /** All that a trial can change is brought back by one undo(). */
    private static void undoOfAllThatATrialIs() {
        PlateSlabs x = Made.leaking();
        long[] before = Sight.ofState(x);
        DUE.is("perform()", Due.performed(x, Made.ALL_OF_A_STATE), 12);
        DUE.is("numbers that are changed", Sight.numbersThatDiffer(before, Sight.ofState(x)), 4 * 7 + 3);
        DUE.is("undo()", x.undo(), 3);
        DUE.same("undo()", Sight.ofState(x), before);
    }
}
