/** Promises 15 to 24: pair, book, reason, force, restsIn, depthIn, the voltages, strongest, count. */
public final class ToldTest {
    private static final Due DUE = new Due("ToldTest");

    public static void main(String[] args) {
        pair();
        book();
        bookBelowZero();
        reasons();
        force();
        restsIn();
        restsInWithLeak();
        depthIn();
        leastVoltage();
        drawingVoltage();
        strongest();
        count();
        unknownPairs();
        DUE.end();
    }

    /** Area 3, stuff 4, spring 5 from 30, friction 6, leak 7, depth 10. */
    private static PlateSlabs setUp(int pair) {
        PlateSlabs x = new PlateSlabs();
        int[] settings = {3, 4, 5, 30, 6, 7};
        for (int which = 0; which < 6; which++) {
            x.set(pair, which, settings[which]);
        }
        x.put(pair, 10);
        return x;
    }

    private static void told(PlateSlabs x, int pair, int... want) {
        for (int what = 0; what < want.length; what++) {
            DUE.is("pair(" + pair + ", " + what + ")", x.pair(pair, what), want[what]);
        }
    }

    private static void pair() {
        PlateSlabs x = setUp(2);
        told(x, 2, 3, 4, 5, 30, 6, 7, 10, 210, 0, 10, 0, 0, 100);
        x.turnOn(2, 9);
        told(x, 2, 3, 4, 5, 30, 6, 7, 10, 210, 1890, 9, 1, 729, 100);
        x.put(2, 35);
        told(x, 2, 3, 4, 5, 30, 6, 7, 35, 435, 3915, 9, 1, 729, 25);
        x.turnOff(2);
        x.put(2, 36);
        told(x, 2, 3, 4, 5, 30, 6, 7, 36, 444, 3915, 9, 0, 699, 30);
        DUE.is("pair(2, 13)", x.pair(2, 13), PlateSlabs.BAD_VALUE);
        DUE.is("pair(2, -1)", x.pair(2, -1), PlateSlabs.BAD_VALUE);
        DUE.is("pair(4, 13)", x.pair(4, 13), PlateSlabs.UNKNOWN);
        DUE.is("pair(-1, 0)", x.pair(-1, 0), PlateSlabs.UNKNOWN);
    }

    private static void books(PlateSlabs x, int pair, long... want) {
        for (int what = 0; what < want.length; what++) {
            DUE.is("book(" + pair + ", " + what + ")", x.book(pair, what), want[what]);
        }
    }

    private static void book() {
        PlateSlabs x = new PlateSlabs();
        x.turnOn(1, 10);
        books(x, 1, 4000, 8000, 0, 0, 4000);
        x.pass(1);
        books(x, 1, 4100, 8200, 0, 0, 4100);
        x.turnOff(1);
        books(x, 1, 4100, 8200, 0, 0, 4100);
        x.set(1, 5, 100);
        x.pass(1);
        books(x, 1, 369 * 369 / 42, 8200, 4100 - 3321, 0, 8200 - 3241 - 779);
        x.couple(1, 3);
        long after1 = 189 * 189 / 42;
        long after3 = 180 * 180 / 40;
        DUE.is("charge 1", x.pair(1, 8), 189);
        long loss = 3241 - after1 - after3;
        books(x, 1, after1, 8200, 779, loss / 2, 8200 - after1 - 779 - loss / 2);
        books(x, 3, after3, 0, 0, loss - loss / 2, -after3 - (loss - loss / 2));
        DUE.is("book(1, 5)", x.book(1, 5), PlateSlabs.BAD_VALUE);
        DUE.is("book(1, -1)", x.book(1, -1), PlateSlabs.BAD_VALUE);
        DUE.is("book(4, 5)", x.book(4, 5), PlateSlabs.UNKNOWN);
        DUE.is("book(-1, 0)", x.book(-1, 0), PlateSlabs.UNKNOWN);
    }

    private static void bookBelowZero() {
        PlateSlabs x = new PlateSlabs();
        x.turnOn(0, 30);
        x.turnOff(0);
        x.turnOn(0, 1);
        x.set(0, 0, 9);
        x.turnOff(0);
        x.set(0, 0, 1);
        x.turnOn(0, 29);
        x.turnOn(0, 30);
        x.turnOn(0, 29);
        long gave = 60L * 1200 - 2L * 1160 + 2L * 320 + 58L * 800 + 60L * 40 - 58L * 40;
        books(x, 0, 29 * 1160, gave, 0, 0, gave - 29 * 1160);
        PlateSlabs y = new PlateSlabs();
        y.put(0, 40);
        y.turnOn(1, 30);
        y.turnOff(1);
        y.couple(0, 1);
        y.turnOn(0, 5);
        DUE.is("less than 0 is given", y.book(0, 1), 10L * (400 - 800));
    }

    private static void reasons() {
        PlateSlabs x = new PlateSlabs();
        DUE.is("no force", x.reason(0), 2);
        x.turnOn(0, 1);
        DUE.is("in by a force of 1", x.reason(0), 0);
        x.turnOn(0, 10);
        DUE.is("in", x.reason(0), 0);
        x.set(0, 4, 100);
        DUE.is("friction is as great", x.reason(0), 3);
        x.set(0, 4, 99);
        DUE.is("friction is less", x.reason(0), 0);
        x.put(0, 40);
        DUE.is("at the inner end", x.reason(0), 4);
        x.set(0, 4, 100);
        DUE.is("friction comes before the end", x.reason(0), 3);
        x.set(0, 2, 5);
        DUE.is("net force 100 out, friction 100", x.reason(0), 3);
        x.set(0, 4, 99);
        DUE.is("out", x.reason(0), 1);
        x.put(0, 20);
        DUE.is("spring holds the pull", x.reason(0), 2);
        x.set(0, 4, 0);
        x.turnOff(0);
        x.put(1, 0);
        x.set(1, 2, 1);
        DUE.is("spring at rest", x.reason(1), 2);
        x.set(1, 3, 7);
        DUE.is("pushed in", x.reason(1), 0);
        x.put(1, 8);
        DUE.is("drawn out", x.reason(1), 1);
        PlateSlabs y = new PlateSlabs();
        y.set(0, 2, 3);
        y.set(0, 3, 40);
        y.put(0, 39);
        DUE.is("pushed to 40", y.reason(0), 0);
        y.pass(1);
        DUE.is("at 40 and at rest", y.reason(0), 2);
        DUE.is("reason(4)", y.reason(4), PlateSlabs.UNKNOWN);
    }

    private static void force() {
        PlateSlabs x = setUp(1);
        DUE.is("force(1, 30)", x.force(1, 30), 0);
        DUE.is("force(1, 0): pushed in", x.force(1, 0), 150);
        DUE.is("force(1, 40): without its sign", x.force(1, 40), 50);
        x.turnOn(1, 9);
        DUE.is("on: force(1, 0)", x.force(1, 0), 729 + 150);
        DUE.is("on: force(1, 40)", x.force(1, 40), 729 - 50);
        x.turnOff(1);
        DUE.is("off: charge of now", x.force(1, 10), 729 + 100);
        DUE.is("off: force(1, 0)", x.force(1, 0), 9 * 1890 * 1890 / (120 * 120) + 150);
        DUE.is("off: force(1, 40)", x.force(1, 40), 9 * 1890 * 1890 / (480 * 480) - 50);
        DUE.is("force(1, 41)", x.force(1, 41), PlateSlabs.BAD_VALUE);
        DUE.is("force(1, -1)", x.force(1, -1), PlateSlabs.BAD_VALUE);
        DUE.is("force(4, 41)", x.force(4, 41), PlateSlabs.UNKNOWN);
        DUE.is("nothing moved", x.pair(1, 6), 10);
        PlateSlabs y = new PlateSlabs();
        y.set(0, 1, 9);
        y.set(0, 0, 9);
        y.put(0, 40);
        y.turnOn(0, 30);
        y.turnOff(0);
        y.set(0, 0, 1);
        DUE.is("a great force", y.force(0, 0), 8L * 97200 * 97200 / 1600);
    }

    private static void restsIn() {
        PlateSlabs x = new PlateSlabs();
        DUE.is("at rest", x.restsIn(0), 0);
        x.turnOn(0, 1);
        DUE.is("40 steps", x.restsIn(0), 40);
        x.put(0, 33);
        DUE.is("7 steps", x.restsIn(0), 7);
        x.put(0, 40);
        DUE.is("at the end", x.restsIn(0), 0);
        x.turnOn(0, 5);
        x.set(0, 2, 3);
        x.set(0, 4, 2);
        x.put(0, 0);
        DUE.is("behind 8 steps the spring holds", x.restsIn(0), 8);
        x.set(0, 4, 0);
        DUE.is("it swings between 8 and 9", x.restsIn(0), PlateSlabs.NONE);
        DUE.is("depthIn(0, 399)", x.depthIn(0, 399), 9);
        DUE.is("depthIn(0, 400)", x.depthIn(0, 400), 8);
        DUE.is("nothing moved", x.pair(0, 6), 0);
        DUE.is("no tick", x.count(0), 0);
        DUE.is("no step", x.count(8), 0);
        DUE.is("restsIn(-1)", x.restsIn(-1), PlateSlabs.UNKNOWN);
        DUE.is("restsIn(4)", x.restsIn(4), PlateSlabs.UNKNOWN);
    }

    /** A slab that swings while the charge leaks rests when its net force happens to be small enough. */
    private static void restsInWithLeak() {
        for (int leak = 0; leak <= 100; leak += 5) {
            for (int friction = 0; friction <= 20; friction += 5) {
                PlateSlabs x = charged(3, 9, 10);
                springs(x, 9, 0, friction, leak);
                DUE.is("restsIn(0), leak " + leak + ", friction " + friction, x.restsIn(0), ticksToRest(x));
            }
        }
        PlateSlabs x = charged(3, 9, 10);
        springs(x, 67, 37, 2, 4);
        x.put(0, 33);
        DUE.is("restsIn(0) of 400 ticks", x.restsIn(0), 400);
        DUE.is("so it is when they pass", ticksToRest(x), 400);
        PlateSlabs y = charged(5, 6, 7);
        springs(y, 89, 21, 1, 6);
        y.put(0, 14);
        DUE.is("restsIn(0) of 401 ticks", y.restsIn(0), PlateSlabs.NONE);
        y.pass(1);
        DUE.is("restsIn(0) when one has passed", y.restsIn(0), 400);
        DUE.is("so it is when they pass", ticksToRest(y), 400);
    }

    private static PlateSlabs charged(int area, int stuff, int voltage) {
        PlateSlabs x = new PlateSlabs();
        x.set(0, 0, area);
        x.set(0, 1, stuff);
        x.turnOn(0, voltage);
        x.turnOff(0);
        return x;
    }

    private static void springs(PlateSlabs x, int strength, int rest, int friction, int leak) {
        x.set(0, 2, strength);
        x.set(0, 3, rest);
        x.set(0, 4, friction);
        x.set(0, 5, leak);
    }

    private static int ticksToRest(PlateSlabs x) {
        for (int ticks = 0; ticks <= 400; ticks++) {
            if (x.pass(1) == 0) {
                return ticks;
            }
        }
        return PlateSlabs.NONE;
    }

    private static void depthIn() {
        PlateSlabs x = new PlateSlabs();
        x.turnOn(0, 10);
        DUE.is("depthIn(0, 1)", x.depthIn(0, 1), 1);
        DUE.is("depthIn(0, 39)", x.depthIn(0, 39), 39);
        DUE.is("depthIn(0, 400)", x.depthIn(0, 400), 40);
        DUE.is("depthIn(0, 0)", x.depthIn(0, 0), PlateSlabs.BAD_VALUE);
        DUE.is("depthIn(0, -1)", x.depthIn(0, -1), PlateSlabs.BAD_VALUE);
        DUE.is("depthIn(0, 401)", x.depthIn(0, 401), PlateSlabs.BAD_VALUE);
        DUE.is("depthIn(4, 0)", x.depthIn(4, 0), PlateSlabs.UNKNOWN);
        DUE.is("nothing moved", x.pair(0, 6), 0);
        DUE.is("nothing given", x.book(0, 1), 8000);
        x.turnOff(0);
        x.set(0, 2, 4);
        x.set(0, 5, 50);
        for (int ticks = 1; ticks <= 400; ticks++) {
            int told = x.depthIn(0, 1);
            x.pass(1);
            DUE.is("depthIn with leak at " + ticks, told, x.pair(0, 6));
            if (ticks == 150) {
                break;
            }
        }
        DUE.is("out in the end", x.pair(0, 6), 0);
    }

    private static void leastVoltage() {
        PlateSlabs x = new PlateSlabs();
        DUE.is("any pull", x.leastVoltage(0), 1);
        x.set(0, 4, 899);
        DUE.is("just the greatest", x.leastVoltage(0), 30);
        x.set(0, 4, 900);
        DUE.is("not the greatest", x.leastVoltage(0), PlateSlabs.NONE);
        x.set(0, 2, 10);
        x.put(0, 5);
        x.set(0, 4, 50);
        DUE.is("spring and friction", x.leastVoltage(0), 11);
        x.turnOn(0, 30);
        DUE.is("not the voltage of now", x.leastVoltage(0), 11);
        x.set(0, 3, 11);
        DUE.is("pushed in without a voltage", x.leastVoltage(0), 0);
        x.put(0, 6);
        DUE.is("pushed just as the friction", x.leastVoltage(0), 1);
        x.put(0, 40);
        DUE.is("no room", x.leastVoltage(0), PlateSlabs.NONE);
        x.put(0, 39);
        DUE.is("a little room", x.leastVoltage(0), 19);
        x.set(0, 1, 1);
        DUE.is("stuff that is not drawn", x.leastVoltage(0), PlateSlabs.NONE);
        DUE.is("leastVoltage(4)", x.leastVoltage(4), PlateSlabs.UNKNOWN);
        DUE.is("leastVoltage(-1)", x.leastVoltage(-1), PlateSlabs.UNKNOWN);
    }

    private static void drawingVoltage() {
        PlateSlabs x = new PlateSlabs();
        DUE.is("any pull", x.drawingVoltage(0), 1);
        x.set(0, 2, 10);
        DUE.is("the spring at 39", x.drawingVoltage(0), 20);
        DUE.is("only a step", x.leastVoltage(0), 1);
        x.set(0, 4, 9);
        DUE.is("390 and 9 are less than 400", x.drawingVoltage(0), 20);
        x.set(0, 4, 10);
        DUE.is("390 and 10 are not", x.drawingVoltage(0), 21);
        x.set(0, 4, 510);
        DUE.is("390 and 510 are 900", x.drawingVoltage(0), PlateSlabs.NONE);
        x.set(0, 4, 509);
        DUE.is("390 and 509 are 899", x.drawingVoltage(0), 30);
        x.put(0, 40);
        DUE.is("it is there, though it would go", x.drawingVoltage(0), 0);
        x.put(0, 0);
        x.set(0, 4, 0);
        x.set(0, 3, 40);
        DUE.is("pushed in without a voltage", x.drawingVoltage(0), 0);
        x.set(0, 1, 1);
        x.set(0, 4, 10);
        DUE.is("pushed to 39 only", x.drawingVoltage(0), PlateSlabs.NONE);
        DUE.is("nothing moved", x.pair(0, 6), 0);
        DUE.is("drawingVoltage(4)", x.drawingVoltage(4), PlateSlabs.UNKNOWN);
        DUE.is("drawingVoltage(-1)", x.drawingVoltage(-1), PlateSlabs.UNKNOWN);
    }

    private static void strongest() {
        PlateSlabs x = new PlateSlabs();
        DUE.is("none is pulled", x.strongest(), PlateSlabs.NONE);
        x.turnOn(2, 1);
        DUE.is("the only one", x.strongest(), 2);
        x.turnOn(1, 1);
        DUE.is("of two the lowest", x.strongest(), 1);
        x.turnOn(3, 2);
        DUE.is("the greatest", x.strongest(), 3);
        x.set(1, 0, 5);
        DUE.is("by its area", x.strongest(), 1);
        x.set(1, 1, 1);
        DUE.is("not by a stuff that is not drawn", x.strongest(), 3);
        x.turnOff(3);
        DUE.is("off, but charged", x.strongest(), 3);
        x.put(3, 40);
        DUE.is("as great, but higher", x.strongest(), 2);
        x.turnOn(0, 1);
        DUE.is("the lowest of three", x.strongest(), 0);
    }

    private static void counts(PlateSlabs x, int... want) {
        for (int what = 0; what < want.length; what++) {
            DUE.is("count(" + what + ")", x.count(what), want[what]);
        }
    }

    private static void count() {
        PlateSlabs x = new PlateSlabs();
        x.turnOn(0, 10);
        x.turnOn(1, 10);
        x.put(1, 40);
        x.put(2, 3);
        x.set(2, 2, 1);
        x.set(3, 0, 2);
        counts(x, 0, 2, 2, 1200, 40 + 80 + 43 + 80, 43, 1, 0, 0, 4, 0);
        x.pass(2);
        counts(x, 2, 2, 2, 1220, 42 + 80 + 41 + 80, 43, 1, 0, 4, 4, 0);
        x.turnOff(0);
        x.couple(0, 3);
        x.type('x');
        counts(x, 2, 1, 3, 1220, 243, 43, 1, 1, 4, 4, 1);
        x.set(0, 4, 9999);
        x.set(3, 4, 9999);
        x.set(2, 4, 1);
        counts(x, 2, 1, 0, 1220, 243, 43, 1, 1, 4, 4, 1);
        x.undo();
        counts(x, 2, 1, 1, 1220, 243, 43, 1, 1, 4, 3, 1);
        DUE.is("count(11)", x.count(11), PlateSlabs.BAD_VALUE);
        DUE.is("count(-1)", x.count(-1), PlateSlabs.BAD_VALUE);
    }

    private static void unknownPairs() {
        PlateSlabs x = new PlateSlabs();
        for (int pair : new int[] {-1, 4, Integer.MIN_VALUE, Integer.MAX_VALUE}) {
            DUE.is("pair", x.pair(pair, 99), PlateSlabs.UNKNOWN);
            DUE.is("book", x.book(pair, 99), PlateSlabs.UNKNOWN);
            DUE.is("reason", x.reason(pair), PlateSlabs.UNKNOWN);
            DUE.is("force", x.force(pair, 99), PlateSlabs.UNKNOWN);
            DUE.is("restsIn", x.restsIn(pair), PlateSlabs.UNKNOWN);
            DUE.is("depthIn", x.depthIn(pair, 999), PlateSlabs.UNKNOWN);
            DUE.is("leastVoltage", x.leastVoltage(pair), PlateSlabs.UNKNOWN);
            DUE.is("drawingVoltage", x.drawingVoltage(pair), PlateSlabs.UNKNOWN);
        }
    }
}
