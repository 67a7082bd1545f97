/** Promises 12 to 14: undo, keep, restore. */
public final class HistoryTest {
    private static final Due DUE = new Due("HistoryTest");

    public static void main(String[] args) {
        undoOfEachAct();
        eachActRecordsTheStateOfNow();
        undoBringsAllBack();
        restoreBringsAllBack();
        oldestIsDropped();
        noActNoState();
        keepAndRestore();
        snapshotStays();
        DUE.end();
    }

    private static void undoOfEachAct() {
        PlateSlabs x = new PlateSlabs();
        x.keep();
        x.turnOn(3, 2);
        x.undo();
        x.set(0, 4, 5);
        DUE.is("set", x.count(9), 1);
        x.undo();
        x.turnOn(0, 4);
        DUE.is("turnOn", x.count(9), 1);
        x.turnOff(0);
        DUE.is("turnOff", x.count(9), 2);
        x.put(0, 1);
        DUE.is("put", x.count(9), 3);
        DUE.is("undo()", x.undo(), 2);
        x.couple(0, 1);
        DUE.is("couple", x.count(9), 3);
        DUE.is("undo()", x.undo(), 2);
        x.pass(3);
        DUE.is("pass", x.count(9), 3);
        DUE.is("undo()", x.undo(), 2);
        Due.performed(x, "d2=9");
        DUE.is("perform", x.count(9), 3);
        DUE.is("undo()", x.undo(), 2);
        DUE.is("restore()", x.restore(), 0);
        DUE.is("restore", x.count(9), 3);
        DUE.is("undo()", x.undo(), 2);
        DUE.is("charge is back", x.pair(0, 8), 160);
        DUE.is("undo()", x.undo(), 1);
        DUE.is("on again", x.pair(0, 10), 1);
        DUE.is("undo()", x.undo(), 0);
        DUE.is("friction is back", x.pair(0, 4), 0);
        DUE.is("undo()", x.undo(), PlateSlabs.NONE);
    }

    /** Behind undo() nothing of the act before may be recorded once more. */
    private static void eachActRecordsTheStateOfNow() {
        for (int act = 0; act < 8; act++) {
            PlateSlabs x = new PlateSlabs();
            x.turnOn(2, 1);
            x.turnOn(3, 5);
            x.turnOff(3);
            x.keep();
            x.put(3, 9);
            DUE.is("act " + act, doAct(x, act) >= 0 ? 1 : 0, 1);
            DUE.is("states", x.count(9), 4);
            DUE.is("undo()", x.undo(), 3);
            DUE.is("depth before act " + act, x.pair(3, 6), 9);
            DUE.is("battery before act " + act, x.pair(2, 10), 1);
            DUE.is("charge before act " + act, x.pair(3, 8), 200);
            DUE.is("states", x.count(9), 3);
        }
    }

    private static int doAct(PlateSlabs x, int act) {
        switch (act) {
            case 0:
                return x.set(3, 0, 2);
            case 1:
                return x.turnOn(3, 6);
            case 2:
                return x.couple(3, 1);
            case 3:
                return x.put(3, 7);
            case 4:
                return x.pass(1);
            case 5:
                return Due.performed(x, "d3=1;b3=4");
            case 6:
                return x.restore();
            default:
                return x.turnOff(2);
        }
    }

    private static PlateSlabs mixed() {
        PlateSlabs x = new PlateSlabs();
        for (int which = 0; which < 6; which++) {
            x.set(2, which, 3);
        }
        Due.performed(x, "d2=4;b2=6;o2;c23;.5;b3=8;.2");
        return x;
    }

    private static void undoBringsAllBack() {
        PlateSlabs x = mixed();
        long[] before = all(x);
        Due.performed(x, "d2=9;b2=7;o2;o3;c23;.5;b3=9");
        x.undo();
        // The oldest of the four states was dropped for the trial's.
        before[before.length - 1] = 3;
        DUE.same("undo()", all(x), before);
        x.set(2, 0, 9);
        x.undo();
        DUE.same("undo() of set", all(x), before);
    }

    private static void restoreBringsAllBack() {
        PlateSlabs x = mixed();
        long[] before = all(x);
        x.keep();
        Due.performed(x, "d2=9;b2=7;o2;o3;c23;.5;b3=9");
        long[] behind = all(x);
        x.restore();
        DUE.same("restore()", all(x), before);
        x.undo();
        behind[behind.length - 1] = 3;
        DUE.same("undo() of restore()", all(x), behind);
    }

    /** All that a state is, and the number of states behind it. */
    private static long[] all(PlateSlabs x) {
        long[] told = new long[4 * 18 + 5];
        int at = 0;
        for (int pair = 0; pair < 4; pair++) {
            for (int what = 0; what < 13; what++) {
                told[at++] = x.pair(pair, what);
            }
            for (int what = 0; what < 5; what++) {
                told[at++] = x.book(pair, what);
            }
        }
        for (int what : new int[] {0, 7, 8, 1, 9}) {
            told[at++] = x.count(what);
        }
        return told;
    }

    private static void oldestIsDropped() {
        PlateSlabs x = new PlateSlabs();
        for (int depth = 1; depth <= 7; depth++) {
            x.put(0, depth);
            DUE.is("states", x.count(9), Math.min(depth, 4));
        }
        for (int left = 3; left >= 0; left--) {
            DUE.is("undo()", x.undo(), left);
            DUE.is("depth", x.pair(0, 6), 3 + left);
        }
        DUE.is("undo()", x.undo(), PlateSlabs.NONE);
        DUE.is("depth", x.pair(0, 6), 3);
        x.put(0, 9);
        DUE.is("states", x.count(9), 1);
        x.undo();
        DUE.is("depth", x.pair(0, 6), 3);
    }

    private static void noActNoState() {
        PlateSlabs x = new PlateSlabs();
        x.put(0, 1);
        x.set(0, 0, 1);
        x.turnOff(0);
        x.put(0, 1);
        x.couple(0, 1);
        x.pass(0);
        x.type('x');
        x.perform();
        x.clearText();
        x.keep();
        x.restsIn(0);
        x.depthIn(0, 5);
        x.drawingVoltage(0);
        x.force(0, 9);
        DUE.is("one state", x.count(9), 1);
        DUE.is("depth", x.pair(0, 6), 1);
        DUE.is("undo()", x.undo(), 0);
    }

    private static void keepAndRestore() {
        PlateSlabs x = new PlateSlabs();
        DUE.is("restore()", x.restore(), PlateSlabs.NONE);
        DUE.is("no state", x.count(9), 0);
        x.pass(5);
        x.put(1, 6);
        DUE.is("keep()", x.keep(), 5);
        DUE.is("keep() again", x.keep(), 5);
        x.pass(7);
        x.put(1, 9);
        DUE.is("restore()", x.restore(), 5);
        DUE.is("depth", x.pair(1, 6), 6);
        DUE.is("tick", x.count(0), 5);
        DUE.is("states", x.count(9), 4);
        DUE.is("restore() again is an act", x.restore(), 5);
        x.undo();
        x.undo();
        DUE.is("tick before restore()", x.count(0), 12);
        DUE.is("depth before restore()", x.pair(1, 6), 9);
        DUE.is("keep() in place", x.keep(), 12);
        x.pass(1);
        DUE.is("restore() of the later one", x.restore(), 12);
    }

    private static void snapshotStays() {
        PlateSlabs x = new PlateSlabs();
        DUE.is("keep() of a new one", x.keep(), 0);
        x.put(0, 5);
        x.restore();
        x.put(0, 7);
        x.undo();
        x.undo();
        x.undo();
        DUE.is("depth", x.pair(0, 6), 0);
        x.put(0, 8);
        DUE.is("restore() after undo()", x.restore(), 0);
        DUE.is("depth", x.pair(0, 6), 0);
        x.put(0, 2);
        DUE.is("restore() after a change of what it brought", x.restore(), 0);
        DUE.is("depth", x.pair(0, 6), 0);
        Due.write(x, "d0=3");
        x.keep();
        x.type('x');
        x.restore();
        DUE.is("the text is no part of it", x.count(10), 5);
    }
}
