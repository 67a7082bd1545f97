/**
 * The ranges of every number: each value that is allowed is taken as it is, and those next to the range, on
 * each side, and far from it are not.
 */
public final class RangesTest {
    private static final Due DUE = new Due("RangesTest");
    private static final int[] LEAST = {1, 1, 0, 0, 0, 0};
    private static final int[] GREATEST = {9, 9, 999, 40, 9999, 100};
    private static final int[] AT_FIRST = {1, 2, 0, 0, 0, 0};
    // An object is used for at most 512 calls, and a value takes three.
    private static final int VALUES_OF_AN_OBJECT = 150;

    public static void main(String[] args) {
        for (int pair = 0; pair < 4; pair++) {
            atFirst(pair);
            settings(pair);
            voltages(pair);
            depths(pair);
        }
        ticks();
        whatIsTold();
        depthsOfForce();
        ticksOfDepthIn();
        DUE.end();
    }

    /** "1 at first", "2 at first", "0 at first", "10 at first", "off at first". */
    private static void atFirst(int pair) {
        PlateSlabs x = new PlateSlabs();
        for (int which = 0; which < 6; which++) {
            DUE.is("setting " + which + " at first", x.pair(pair, which), AT_FIRST[which]);
            DUE.is("set as it is at first", x.set(pair, which, AT_FIRST[which]), PlateSlabs.NONE);
        }
        DUE.is("depth at first", x.pair(pair, 6), 0);
        DUE.is("charge at first", x.pair(pair, 8), 0);
        DUE.is("voltage at first", x.pair(pair, 9), 10);
        DUE.is("off at first", x.pair(pair, 10), 0);
        DUE.is("turnOn with the voltage of first", x.turnOn(pair, 10), 400);
    }

    private static void settings(int pair) {
        for (int which = 0; which < 6; which++) {
            PlateSlabs x = new PlateSlabs();
            int previous = AT_FIRST[which];
            for (int value = LEAST[which]; value <= GREATEST[which]; value++) {
                if (value % VALUES_OF_AN_OBJECT == 0) {
                    x = new PlateSlabs();
                    previous = AT_FIRST[which];
                }
                String call = "set(" + pair + ", " + which + ", " + value + ")";
                DUE.is(call, x.set(pair, which, value), value == previous ? PlateSlabs.NONE : previous);
                DUE.is(call + " is told", x.pair(pair, which), value);
                previous = value;
            }
            outside(x, pair, which);
        }
    }

    private static void outside(PlateSlabs x, int pair, int which) {
        int[] bad = {LEAST[which] - 1, LEAST[which] - 2, GREATEST[which] + 1, GREATEST[which] + 2,
            LEAST[which] - 65536, GREATEST[which] + 65536, Integer.MIN_VALUE, Integer.MAX_VALUE};
        for (int value : bad) {
            String call = "set(" + pair + ", " + which + ", " + value + ")";
            DUE.is(call, x.set(pair, which, value), PlateSlabs.BAD_VALUE);
            DUE.is(call + " leaves it", x.pair(pair, which), GREATEST[which]);
        }
    }

    private static void voltages(int pair) {
        PlateSlabs x = new PlateSlabs();
        for (int voltage = 0; voltage <= 30; voltage++) {
            DUE.is("turnOn(" + voltage + ")", x.turnOn(pair, voltage), 40 * voltage);
            DUE.is("turnOn(" + voltage + ") is told", x.pair(pair, 9), voltage);
            DUE.is("turnOn(" + voltage + ") again", x.turnOn(pair, voltage), PlateSlabs.NONE);
        }
        for (int voltage : new int[] {-1, -2, -30, 31, 32, 40, 100, Integer.MIN_VALUE, Integer.MAX_VALUE}) {
            DUE.is("turnOn(" + voltage + ")", x.turnOn(pair, voltage), PlateSlabs.BAD_VALUE);
            DUE.is("turnOn(" + voltage + ") leaves it", x.pair(pair, 9), 30);
        }
    }

    private static void depths(int pair) {
        PlateSlabs x = new PlateSlabs();
        DUE.is("put(0) at first", x.put(pair, 0), PlateSlabs.NONE);
        for (int depth = 1; depth <= 40; depth++) {
            DUE.is("put(" + depth + ")", x.put(pair, depth), depth - 1);
            DUE.is("put(" + depth + ") is told", x.pair(pair, 6), depth);
        }
        for (int depth : new int[] {-1, -2, -40, 41, 42, 80, Integer.MIN_VALUE, Integer.MAX_VALUE}) {
            DUE.is("put(" + depth + ")", x.put(pair, depth), PlateSlabs.BAD_VALUE);
            DUE.is("put(" + depth + ") leaves it", x.pair(pair, 6), 40);
        }
        DUE.is("put(0)", x.put(pair, 0), 40);
        DUE.is("put(-1) at 0", x.put(pair, -1), PlateSlabs.BAD_VALUE);
    }

    private static void ticks() {
        PlateSlabs x = new PlateSlabs();
        int tick = 0;
        for (int ticks = 1; ticks <= 99; ticks++) {
            DUE.is("pass(" + ticks + ")", x.pass(ticks), 0);
            tick += ticks;
            DUE.is("tick behind pass(" + ticks + ")", x.count(0), tick);
        }
        for (int ticks : new int[] {0, -1, -99, 100, 101, 198, Integer.MIN_VALUE, Integer.MAX_VALUE}) {
            DUE.is("pass(" + ticks + ")", x.pass(ticks), PlateSlabs.BAD_VALUE);
            DUE.is("tick behind pass(" + ticks + ")", x.count(0), tick);
        }
    }

    /** pair: 0 to 12, book: 0 to 4, count: 0 to 10, stopped: 0 and 1. */
    private static void whatIsTold() {
        PlateSlabs x = Made.rich();
        for (int what = -20; what <= 30; what++) {
            DUE.is("pair(1, " + what + ") is BAD_VALUE", x.pair(1, what) == -2 ? 1 : 0, what < 0 || what > 12 ? 1 : 0);
            DUE.is("book(1, " + what + ") is BAD_VALUE", x.book(1, what) == -2 ? 1 : 0, what < 0 || what > 4 ? 1 : 0);
            DUE.is("count(" + what + ") is BAD_VALUE", x.count(what) == -2 ? 1 : 0, what < 0 || what > 10 ? 1 : 0);
        }
        for (int what : new int[] {Integer.MIN_VALUE, Integer.MAX_VALUE}) {
            DUE.is("pair(0, " + what + ")", x.pair(0, what), PlateSlabs.BAD_VALUE);
            DUE.is("book(0, " + what + ")", x.book(0, what), PlateSlabs.BAD_VALUE);
            DUE.is("count(" + what + ")", x.count(what), PlateSlabs.BAD_VALUE);
            DUE.is("stopped(" + what + ")", x.stopped(what), PlateSlabs.BAD_VALUE);
        }
        DUE.is("stopped(0)", x.stopped(0), 1);
        DUE.is("stopped(1)", x.stopped(1), PlateSlabs.BAD_VALUE);
        DUE.is("stopped(2)", x.stopped(2), PlateSlabs.BAD_VALUE);
        DUE.is("stopped(-1)", x.stopped(-1), PlateSlabs.BAD_VALUE);
    }

    private static void depthsOfForce() {
        PlateSlabs x = new PlateSlabs();
        x.set(2, 2, 3);
        for (int depth = 0; depth <= 40; depth++) {
            DUE.is("force(2, " + depth + ")", x.force(2, depth), 3 * depth);
        }
        for (int depth : new int[] {-1, -2, 41, 42, Integer.MIN_VALUE, Integer.MAX_VALUE}) {
            DUE.is("force(2, " + depth + ")", x.force(2, depth), PlateSlabs.BAD_VALUE);
        }
    }

    private static void ticksOfDepthIn() {
        PlateSlabs x = new PlateSlabs();
        x.turnOn(3, 1);
        for (int ticks = 1; ticks <= 400; ticks++) {
            DUE.is("depthIn(3, " + ticks + ")", x.depthIn(3, ticks), Math.min(ticks, 40));
        }
        for (int ticks : new int[] {0, -1, -400, 401, 402, 100000, Integer.MIN_VALUE, Integer.MAX_VALUE}) {
            DUE.is("depthIn(3, " + ticks + ")", x.depthIn(3, ticks), PlateSlabs.BAD_VALUE);
        }
    }
}
