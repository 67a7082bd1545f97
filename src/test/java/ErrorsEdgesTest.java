/**
 * ERRORS: "Where several errors can apply, the order of the @return line is the order of the checks. NONE is
 * no error; it is returned only if no error applies." And UNKNOWN: "There is no such pair or setting."
 */
public final class ErrorsEdgesTest {
    private static final Due DUE = new Due("ErrorsEdgesTest");
    private static final int[] NO_PAIR = {-1, 4, 5, -4, 255, 256, -256, 1 << 16, Integer.MIN_VALUE, Integer.MAX_VALUE};
    private static final int[] NO_NUMBER = {-1, 100000, Integer.MIN_VALUE, Integer.MAX_VALUE};

    /** A call for a number that the test gives. */
    interface CallOf {
        long on(PlateSlabs x, int number);
    }

    public static void main(String[] args) {
        pairsAre0To3();
        noPairComesFirst();
        noSettingComesFirst();
        anotherArgumentComesBeforeNone();
        ordersOfCouple();
        notPossibleComesBeforeFull();
        badTicksComeBeforeFull();
        faultComesBeforeStop();
        badQuestionComesBeforeNoStop();
        errorsOfThings();
        errorsAreTheConstants();
        DUE.end();
    }

    /** "There are 4 pairs of plates, 0 to 3." */
    private static void pairsAre0To3() {
        CallOf[] calls = {(x, p) -> x.set(p, 0, 3), (x, p) -> x.turnOn(p, 5), (x, p) -> x.turnOff(p),
            (x, p) -> x.put(p, 5), (x, p) -> x.couple(p, p == 0 ? 1 : 0), (x, p) -> x.couple(p == 1 ? 0 : 1, p),
            (x, p) -> x.pair(p, 0), (x, p) -> x.book(p, 0), (x, p) -> x.reason(p), (x, p) -> x.force(p, 0),
            (x, p) -> x.restsIn(p), (x, p) -> x.depthIn(p, 1), (x, p) -> x.leastVoltage(p),
            (x, p) -> x.drawingVoltage(p)};
        long[] due = {1, 200, PlateSlabs.NONE, 0, PlateSlabs.NONE, PlateSlabs.NONE, 1, 0, 2, 0, 0, 0, 1, 1};
        for (int i = 0; i < calls.length; i++) {
            for (int pair = 0; pair < 4; pair++) {
                DUE.is("call " + i + " of pair " + pair, calls[i].on(new PlateSlabs(), pair), due[i]);
            }
            for (int pair : NO_PAIR) {
                DUE.is("call " + i + " of pair " + pair, calls[i].on(new PlateSlabs(), pair), PlateSlabs.UNKNOWN);
            }
        }
    }

    private static void noPairComesFirst() {
        PlateSlabs x = new PlateSlabs();
        for (int pair : new int[] {-1, 4}) {
            for (int number : NO_NUMBER) {
                DUE.is("set: no pair and no setting", x.set(pair, number, 1), PlateSlabs.UNKNOWN);
                DUE.is("set: no pair and no value", x.set(pair, 0, number), PlateSlabs.UNKNOWN);
                DUE.is("turnOn: no pair and no voltage", x.turnOn(pair, number), PlateSlabs.UNKNOWN);
                DUE.is("put: no pair and no depth", x.put(pair, number), PlateSlabs.UNKNOWN);
                DUE.is("pair: no pair and nothing to tell", x.pair(pair, number), PlateSlabs.UNKNOWN);
                DUE.is("book: no pair and nothing to tell", x.book(pair, number), PlateSlabs.UNKNOWN);
                DUE.is("force: no pair and no depth", x.force(pair, number), PlateSlabs.UNKNOWN);
                DUE.is("depthIn: no pair and no ticks", x.depthIn(pair, number), PlateSlabs.UNKNOWN);
            }
            DUE.is("set: no pair, as it is", x.set(pair, 0, 1), PlateSlabs.UNKNOWN);
            DUE.is("put: no pair, as it is", x.put(pair, 0), PlateSlabs.UNKNOWN);
            DUE.is("turnOff: no pair, off", x.turnOff(pair), PlateSlabs.UNKNOWN);
        }
    }

    private static void noSettingComesFirst() {
        PlateSlabs x = new PlateSlabs();
        for (int which : new int[] {-1, 6, 7, 12, Integer.MIN_VALUE, Integer.MAX_VALUE}) {
            DUE.is("set: no setting " + which, x.set(3, which, 1), PlateSlabs.UNKNOWN);
            DUE.is("set: no setting and value 0", x.set(3, which, 0), PlateSlabs.UNKNOWN);
            for (int number : NO_NUMBER) {
                DUE.is("set: no setting and no value", x.set(3, which, number), PlateSlabs.UNKNOWN);
            }
        }
        DUE.is("nothing is recorded", x.count(9), 0);
    }

    private static void anotherArgumentComesBeforeNone() {
        PlateSlabs x = new PlateSlabs();
        x.turnOn(0, 30);
        x.put(0, 40);
        DUE.is("turnOn: on, but no voltage", x.turnOn(0, 31), PlateSlabs.BAD_VALUE);
        DUE.is("put: at the end, but no depth", x.put(0, 41), PlateSlabs.BAD_VALUE);
        DUE.is("couple: charges stay, but both are the same", x.couple(1, 1), PlateSlabs.BAD_VALUE);
        DUE.is("couple: charges stay, but no pair", x.couple(1, 4), PlateSlabs.UNKNOWN);
        x.turnOn(2, 0);
        DUE.is("couple: charges of 0 stay, but one is on", x.couple(2, 1), PlateSlabs.NOT_POSSIBLE);
        DUE.is("couple: charges of 0 stay, but one is on", x.couple(1, 2), PlateSlabs.NOT_POSSIBLE);
    }

    /** couple: UNKNOWN, then BAD_VALUE, then NOT_POSSIBLE. */
    private static void ordersOfCouple() {
        PlateSlabs x = new PlateSlabs();
        x.turnOn(0, 1);
        for (int none : new int[] {-1, 4}) {
            DUE.is("no pairs, both the same", x.couple(none, none), PlateSlabs.UNKNOWN);
            DUE.is("the first is on, the other none", x.couple(0, none), PlateSlabs.UNKNOWN);
            DUE.is("the first is none, the other on", x.couple(none, 0), PlateSlabs.UNKNOWN);
        }
        DUE.is("both the same and on", x.couple(0, 0), PlateSlabs.BAD_VALUE);
        x.turnOn(1, 1);
        DUE.is("both are on", x.couple(0, 1), PlateSlabs.NOT_POSSIBLE);
        x.turnOff(0);
        DUE.is("only the other is on", x.couple(0, 1), PlateSlabs.NOT_POSSIBLE);
        DUE.is("only the first is on", x.couple(1, 0), PlateSlabs.NOT_POSSIBLE);
        x.turnOff(1);
        DUE.is("none is on", x.couple(1, 0), PlateSlabs.NONE);
    }

    /** Pair 2 would get nearly all of 293326, but it is on. */
    private static void notPossibleComesBeforeFull() {
        PlateSlabs x = Made.nearlyFull();
        x.set(0, 0, 1);
        x.put(0, 0);
        Made.charge(x, 2, 9, 9, 40, 30);
        DUE.is("too much for the other", x.couple(0, 2), PlateSlabs.FULL);
        DUE.is("too much for the first", x.couple(2, 0), PlateSlabs.FULL);
        x.turnOn(2, 30);
        DUE.is("too much for the other, which is on", x.couple(0, 2), PlateSlabs.NOT_POSSIBLE);
        DUE.is("too much for the first, which is on", x.couple(2, 0), PlateSlabs.NOT_POSSIBLE);
        DUE.is("both the same", x.couple(2, 2), PlateSlabs.BAD_VALUE);
    }

    private static void badTicksComeBeforeFull() {
        PlateSlabs x = Made.late(99999);
        DUE.is("pass(1) at the last tick", x.pass(1), PlateSlabs.FULL);
        DUE.is("pass(99) at the last tick", x.pass(99), PlateSlabs.FULL);
        DUE.is("pass(0) at the last tick", x.pass(0), PlateSlabs.BAD_VALUE);
        DUE.is("pass(100) at the last tick", x.pass(100), PlateSlabs.BAD_VALUE);
        DUE.is("pass(-1) at the last tick", x.pass(-1), PlateSlabs.BAD_VALUE);
        DUE.is("pass(MAX_VALUE) at the last tick", x.pass(Integer.MAX_VALUE), PlateSlabs.BAD_VALUE);
    }

    private static void faultComesBeforeStop() {
        PlateSlabs x = new PlateSlabs();
        DUE.is("a stop ahead of a fault", Due.performed(x, "c00;"), -104);
        DUE.is("no stop", x.stopped(0), PlateSlabs.NONE);
        DUE.is("a stop without a fault", Due.performed(x, "c00"), PlateSlabs.NOT_POSSIBLE);
        DUE.is("a stop ahead of a fault", Due.performed(x, "o0;c11;c9"), -108);
        DUE.is("the latest stop stays", x.stopped(0), 0);
    }

    private static void badQuestionComesBeforeNoStop() {
        PlateSlabs x = new PlateSlabs();
        for (int what : new int[] {-1, 2, Integer.MIN_VALUE, Integer.MAX_VALUE}) {
            DUE.is("stopped(" + what + ")", x.stopped(what), PlateSlabs.BAD_VALUE);
        }
        DUE.is("stopped(0)", x.stopped(0), PlateSlabs.NONE);
        DUE.is("stopped(1)", x.stopped(1), PlateSlabs.NONE);
    }

    /** A thing of a trial returns its errors in the order of its method. */
    private static void errorsOfThings() {
        PlateSlabs x = Made.nearlyFull();
        x.set(0, 0, 1);
        x.put(0, 0);
        Made.charge(x, 2, 9, 9, 40, 30);
        String[] trials = {"b2=1;c22", "b2=30;c02", "b2=30;c20", "c02", "c20"};
        int[] number = {1, 1, 1, 0, 0};
        int[] error = {PlateSlabs.BAD_VALUE, PlateSlabs.NOT_POSSIBLE, PlateSlabs.NOT_POSSIBLE, PlateSlabs.FULL,
            PlateSlabs.FULL};
        for (int i = 0; i < trials.length; i++) {
            DUE.is(trials[i], Due.performed(x, trials[i]), PlateSlabs.NOT_POSSIBLE);
            DUE.is(trials[i] + ", stopped(0)", x.stopped(0), number[i]);
            DUE.is(trials[i] + ", stopped(1)", x.stopped(1), error[i]);
        }
    }

    /** The numbers behind the names, as the document tells them. */
    private static void errorsAreTheConstants() {
        PlateSlabs x = new PlateSlabs();
        DUE.is("UNKNOWN", x.turnOff(4), -1);
        DUE.is("BAD_VALUE", x.put(0, 41), -2);
        DUE.is("NONE", x.turnOff(0), -5);
        for (int i = 0; i < 60; i++) {
            x.type('o');
        }
        DUE.is("FULL", x.type('o'), -3);
        x.turnOn(0, 1);
        DUE.is("NOT_POSSIBLE", x.couple(0, 1), -4);
    }
}
