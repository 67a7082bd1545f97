/** Promises 1 to 7: a new object, set, turnOn, turnOff, put, couple, pass. */
public final class PairsTest {
    private static final Due DUE = new Due("PairsTest");

    public static void main(String[] args) {
        newObject();
        setTellsPrevious();
        setErrors();
        setKeepsOrHoldsCharge();
        turnOn();
        turnOff();
        put();
        coupleShares();
        coupleErrors();
        coupleBooksLossesBelowZero();
        coupleUpToTheMostCharge();
        coupleJustToTheMostCharge();
        passMoves();
        passLeaks();
        passEndsAtLastTick();
        DUE.end();
    }

    private static void newObject() {
        PlateSlabs x = new PlateSlabs();
        int[] first = {1, 2, 0, 0, 0, 0, 0, 40, 0, 10, 0, 0, 0};
        for (int pair = 0; pair < 4; pair++) {
            for (int what = 0; what < first.length; what++) {
                DUE.is("new pair(" + pair + ", " + what + ")", x.pair(pair, what), first[what]);
            }
            for (int what = 0; what < 5; what++) {
                DUE.is("new book(" + pair + ", " + what + ")", x.book(pair, what), 0);
            }
        }
        int[] counts = {0, 0, 0, 0, 160, 0, 0, 0, 0, 0, 0};
        for (int what = 0; what < counts.length; what++) {
            DUE.is("new count(" + what + ")", x.count(what), counts[what]);
        }
        DUE.is("new undo()", x.undo(), PlateSlabs.NONE);
        DUE.is("new restore()", x.restore(), PlateSlabs.NONE);
        DUE.is("new stopped(0)", x.stopped(0), PlateSlabs.NONE);
        DUE.is("new perform()", x.perform(), -100);
    }

    private static void setTellsPrevious() {
        int[] least = {1, 1, 0, 0, 0, 0};
        int[] greatest = {9, 9, 999, 40, 9999, 100};
        int[] first = {1, 2, 0, 0, 0, 0};
        for (int which = 0; which < 6; which++) {
            PlateSlabs x = new PlateSlabs();
            String call = "set(3, " + which + ", ..) ";
            DUE.is(call + "greatest", x.set(3, which, greatest[which]), first[which]);
            DUE.is(call + "is told", x.pair(3, which), greatest[which]);
            DUE.is(call + "the same", x.set(3, which, greatest[which]), PlateSlabs.NONE);
            DUE.is(call + "least", x.set(3, which, least[which]), greatest[which]);
            DUE.is(call + "too little", x.set(3, which, least[which] - 1), PlateSlabs.BAD_VALUE);
            DUE.is(call + "too much", x.set(3, which, greatest[which] + 1), PlateSlabs.BAD_VALUE);
            DUE.is(call + "far too little", x.set(3, which, Integer.MIN_VALUE), PlateSlabs.BAD_VALUE);
            DUE.is(call + "far too much", x.set(3, which, Integer.MAX_VALUE), PlateSlabs.BAD_VALUE);
            DUE.is(call + "stays", x.pair(3, which), least[which]);
            DUE.is(call + "acts", x.count(9), 2);
            for (int other = 0; other < 6; other++) {
                int want = other == which ? least[which] : first[other];
                DUE.is(call + "leaves " + other, x.pair(3, other), want);
                DUE.is(call + "leaves pair 2", x.pair(2, other), first[other]);
            }
        }
    }

    private static void setErrors() {
        PlateSlabs x = new PlateSlabs();
        DUE.is("set(-1, 0, 1)", x.set(-1, 0, 1), PlateSlabs.UNKNOWN);
        DUE.is("set(4, 0, 1)", x.set(4, 0, 1), PlateSlabs.UNKNOWN);
        DUE.is("set(0, -1, 1)", x.set(0, -1, 1), PlateSlabs.UNKNOWN);
        DUE.is("set(0, 6, 1)", x.set(0, 6, 1), PlateSlabs.UNKNOWN);
        DUE.is("set(4, 0, 0)", x.set(4, 0, 0), PlateSlabs.UNKNOWN);
        DUE.is("set(0, 6, -1)", x.set(0, 6, -1), PlateSlabs.UNKNOWN);
        DUE.is("nothing recorded", x.count(9), 0);
    }

    private static void setKeepsOrHoldsCharge() {
        PlateSlabs x = new PlateSlabs();
        x.put(0, 10);
        DUE.is("turnOn(0, 3)", x.turnOn(0, 3), 150);
        DUE.is("on: set(0, 0, 4)", x.set(0, 0, 4), 1);
        DUE.is("on: charge of area", x.pair(0, 8), 600);
        DUE.is("on: set(0, 1, 5)", x.set(0, 1, 5), 2);
        DUE.is("on: charge of stuff", x.pair(0, 8), 960);
        DUE.is("on: given", x.book(0, 1), 6 * 960);
        DUE.is("on: set(0, 0, 1)", x.set(0, 0, 1), 4);
        DUE.is("on: charge of less area", x.pair(0, 8), 240);
        DUE.is("on: given back", x.book(0, 1), 6 * 240);
        x.turnOff(0);
        DUE.is("off: set(0, 0, 9)", x.set(0, 0, 9), 1);
        DUE.is("off: charge stays", x.pair(0, 8), 240);
        DUE.is("off: set(0, 1, 1)", x.set(0, 1, 1), 5);
        DUE.is("off: charge still stays", x.pair(0, 8), 240);
        DUE.is("off: nothing given", x.book(0, 1), 6 * 240);
        DUE.is("off: stored", x.book(0, 0), 240 * 240 / 360);
    }

    private static void turnOn() {
        PlateSlabs x = new PlateSlabs();
        DUE.is("turnOn(-1, 31)", x.turnOn(-1, 31), PlateSlabs.UNKNOWN);
        DUE.is("turnOn(4, 5)", x.turnOn(4, 5), PlateSlabs.UNKNOWN);
        DUE.is("turnOn(0, -1)", x.turnOn(0, -1), PlateSlabs.BAD_VALUE);
        DUE.is("turnOn(0, 31)", x.turnOn(0, 31), PlateSlabs.BAD_VALUE);
        DUE.is("errors leave it off", x.pair(0, 10), 0);
        DUE.is("turnOn(0, 10)", x.turnOn(0, 10), 400);
        DUE.is("turnOn(0, 10) again", x.turnOn(0, 10), PlateSlabs.NONE);
        DUE.is("turnOn(0, 30)", x.turnOn(0, 30), 1200);
        DUE.is("given by the new voltage", x.book(0, 1), 20 * 400 + 60 * 800);
        DUE.is("turnOn(0, 5)", x.turnOn(0, 5), 200);
        DUE.is("given back by the new voltage", x.book(0, 1), 56000 - 10 * 1000);
        DUE.is("voltage", x.pair(0, 9), 5);
        DUE.is("turnOn(0, 0)", x.turnOn(0, 0), 0);
        DUE.is("no voltage gives nothing", x.book(0, 1), 46000);
        DUE.is("it is on at 0", x.pair(0, 10), 1);
        DUE.is("turnOn(0, 0) again", x.turnOn(0, 0), PlateSlabs.NONE);
        DUE.is("recorded", x.count(9), 4);
        x.turnOff(0);
        x.set(0, 0, 2);
        DUE.is("turnOn(0, 0) when off", x.turnOn(0, 0), 0);
    }

    private static void turnOff() {
        PlateSlabs x = new PlateSlabs();
        DUE.is("turnOff(-1)", x.turnOff(-1), PlateSlabs.UNKNOWN);
        DUE.is("turnOff(4)", x.turnOff(4), PlateSlabs.UNKNOWN);
        DUE.is("turnOff(0)", x.turnOff(0), PlateSlabs.NONE);
        x.turnOn(0, 7);
        DUE.is("turnOff(0) when on", x.turnOff(0), 280);
        DUE.is("charge stays", x.pair(0, 8), 280);
        DUE.is("voltage stays", x.pair(0, 9), 7);
        DUE.is("it is off", x.pair(0, 10), 0);
        DUE.is("turnOff(0) again", x.turnOff(0), PlateSlabs.NONE);
        DUE.is("recorded", x.count(9), 2);
        DUE.is("turnOn(0, 7) is no NONE", x.turnOn(0, 7), 280);
    }

    private static void put() {
        PlateSlabs x = new PlateSlabs();
        DUE.is("put(4, 41)", x.put(4, 41), PlateSlabs.UNKNOWN);
        DUE.is("put(-1, 0)", x.put(-1, 0), PlateSlabs.UNKNOWN);
        DUE.is("put(0, 41)", x.put(0, 41), PlateSlabs.BAD_VALUE);
        DUE.is("put(0, -1)", x.put(0, -1), PlateSlabs.BAD_VALUE);
        DUE.is("put(0, 0)", x.put(0, 0), PlateSlabs.NONE);
        DUE.is("put(0, 40)", x.put(0, 40), 0);
        DUE.is("put(0, 40) again", x.put(0, 40), PlateSlabs.NONE);
        DUE.is("put(0, 25)", x.put(0, 25), 40);
        DUE.is("depth", x.pair(0, 6), 25);
        DUE.is("capacity", x.pair(0, 7), 65);
        DUE.is("recorded", x.count(9), 2);
        DUE.is("no steps of ticks", x.count(8), 0);
        x.turnOn(0, 2);
        x.put(0, 30);
        DUE.is("charge follows", x.pair(0, 8), 140);
        DUE.is("battery gave", x.book(0, 1), 4 * 140);
        x.turnOff(0);
        x.put(0, 0);
        DUE.is("charge stays", x.pair(0, 8), 140);
        DUE.is("stored is more", x.book(0, 0), 490);
        DUE.is("done by hand", x.book(0, 4), 560 - 490);
    }

    private static void coupleShares() {
        PlateSlabs x = new PlateSlabs();
        x.turnOn(0, 10);
        x.turnOff(0);
        x.set(1, 0, 2);
        DUE.is("couple(0, 1)", x.couple(0, 1), 133);
        DUE.is("the rest", x.pair(1, 8), 267);
        DUE.is("sparks of the first", x.book(0, 3), (4000 - 442 - 891) / 2);
        DUE.is("sparks of the other", x.book(1, 3), 2667 - 1333);
        DUE.is("couple(0, 1) again", x.couple(0, 1), PlateSlabs.NONE);
        DUE.is("couple(1, 0) rounds the other", x.couple(1, 0), 266);
        DUE.is("what pair 0 has", x.pair(0, 8), 134);
        DUE.is("couplings", x.count(7), 2);
        DUE.is("recorded", x.count(9), 4);
        DUE.is("couple(2, 3) without charge", x.couple(2, 3), PlateSlabs.NONE);
        x.turnOn(2, 1);
        x.turnOff(2);
        x.set(3, 0, 9);
        DUE.is("couple(3, 2)", x.couple(3, 2), 36);
        DUE.is("couple(2, 3) stays", x.couple(2, 3), PlateSlabs.NONE);
        DUE.is("couplings of now", x.count(7), 3);
    }

    private static void coupleErrors() {
        PlateSlabs x = new PlateSlabs();
        DUE.is("couple(-1, -1)", x.couple(-1, -1), PlateSlabs.UNKNOWN);
        DUE.is("couple(4, 0)", x.couple(4, 0), PlateSlabs.UNKNOWN);
        DUE.is("couple(0, 4)", x.couple(0, 4), PlateSlabs.UNKNOWN);
        DUE.is("couple(0, -1)", x.couple(0, -1), PlateSlabs.UNKNOWN);
        x.turnOn(0, 10);
        DUE.is("couple(0, 0)", x.couple(0, 0), PlateSlabs.BAD_VALUE);
        DUE.is("couple(0, 1)", x.couple(0, 1), PlateSlabs.NOT_POSSIBLE);
        DUE.is("couple(1, 0)", x.couple(1, 0), PlateSlabs.NOT_POSSIBLE);
        DUE.is("couple(2, 2)", x.couple(2, 2), PlateSlabs.BAD_VALUE);
        DUE.is("no couplings", x.count(7), 0);
        DUE.is("recorded", x.count(9), 1);
    }

    private static void charge(PlateSlabs x, int pair, int voltage) {
        x.set(pair, 0, 9);
        x.set(pair, 1, 9);
        x.put(pair, 40);
        x.turnOn(pair, voltage);
        x.turnOff(pair);
    }

    /** By the rounding of charges, two pairs can store more behind a coupling than before. */
    private static void coupleBooksLossesBelowZero() {
        PlateSlabs x = new PlateSlabs();
        x.set(1, 0, 2);
        x.turnOn(0, 29);
        x.turnOff(0);
        x.turnOn(1, 29);
        x.turnOff(1);
        x.set(0, 5, 1);
        x.pass(1);
        DUE.is("charge 0", x.pair(0, 8), 1159);
        x.couple(0, 1);
        long stored = x.book(0, 0) + x.book(1, 0);
        x.couple(1, 0);
        long more = x.book(0, 0) + x.book(1, 0) - stored;
        long sparks = x.book(0, 3) + x.book(1, 3);
        long all = x.book(0, 1) + x.book(1, 1) - x.book(0, 2) - x.book(1, 2);
        DUE.is("the book adds up", all - stored - more - sparks, x.book(0, 4) + x.book(1, 4));
        belowZero();
    }

    private static void belowZero() {
        for (int voltage = 1; voltage <= 30; voltage++) {
            for (int depth = 0; depth <= 40; depth++) {
                PlateSlabs x = new PlateSlabs();
                x.put(1, depth);
                x.turnOn(0, voltage);
                x.turnOff(0);
                x.couple(0, 1);
                long sparks0 = x.book(0, 3);
                long sparks1 = x.book(1, 3);
                long before = x.book(0, 0) + x.book(1, 0);
                x.couple(1, 0);
                long loss = before - x.book(0, 0) - x.book(1, 0);
                String call = "couple(1, 0) of " + voltage + " at " + depth;
                DUE.is(call + ": first", x.book(1, 3) - sparks1, Math.floorDiv(loss, 2L));
                DUE.is(call + ": other", x.book(0, 3) - sparks0, loss - Math.floorDiv(loss, 2L));
            }
        }
        PlateSlabs x = new PlateSlabs();
        x.set(0, 0, 2);
        x.turnOn(1, 1);
        x.turnOff(1);
        DUE.is("couple(0, 1) of 40", x.couple(0, 1), 26);
        DUE.is("couple(1, 0) of 40", x.couple(1, 0), 13);
        DUE.is("sparks of 0: 17, less 1 and more 0", x.book(0, 3), 14);
    }

    private static void coupleUpToTheMostCharge() {
        PlateSlabs x = new PlateSlabs();
        charge(x, 0, 30);
        charge(x, 1, 30);
        x.set(1, 0, 1);
        x.put(1, 0);
        x.set(1, 1, 2);
        DUE.is("couple(0, 1): nearly all", x.couple(0, 1), 192029);
        x.set(1, 0, 9);
        x.set(1, 1, 9);
        x.put(1, 40);
        x.turnOn(1, 3);
        x.turnOff(1);
        x.set(1, 0, 1);
        x.put(1, 0);
        x.set(1, 1, 2);
        DUE.is("charge 1", x.pair(1, 8), 9720);
        DUE.is("couple(0, 1): 199288", x.couple(0, 1), 199288);
        x.turnOn(1, 29);
        x.turnOff(1);
        x.put(1, 0);
        DUE.is("charge 1 of 29", x.pair(1, 8), 1160);
        DUE.is("couple(0, 1): more than 200000 together, less for each", x.couple(0, 1), 198003);
        x.set(1, 0, 9);
        x.set(1, 1, 9);
        x.put(1, 40);
        DUE.is("turnOn(1, 30)", x.turnOn(1, 30), 97200);
        x.turnOff(1);
        x.set(1, 0, 1);
        x.put(1, 0);
        DUE.is("couple(0, 1): too much for 0", x.couple(0, 1), PlateSlabs.FULL);
        DUE.is("couple(1, 0): too much for the other", x.couple(1, 0), PlateSlabs.FULL);
        DUE.is("charge stays", x.pair(0, 8), 198003);
        x.turnOn(2, 1);
        DUE.is("couple(0, 2): on comes first", x.couple(0, 2), PlateSlabs.NOT_POSSIBLE);
    }

    /** Pair 1 gets a charge by its area, stuff, depth and voltage, and then a capacity of 40. */
    private static void refill(PlateSlabs x, int area, int stuff, int depth, int voltage) {
        x.set(1, 0, area);
        x.set(1, 1, stuff);
        x.put(1, depth);
        x.turnOn(1, voltage);
        x.turnOff(1);
        x.set(1, 0, 1);
        x.put(1, 0);
    }

    private static PlateSlabs nearlyFull(int first, int second, int third, int due) {
        PlateSlabs x = new PlateSlabs();
        charge(x, 0, first);
        refill(x, 9, 9, 40, second);
        x.couple(0, 1);
        refill(x, 9, 9, 40, third);
        DUE.is("nearly full", x.couple(0, 1), due);
        x.keep();
        return x;
    }

    private static void coupleJustToTheMostCharge() {
        PlateSlabs x = nearlyFull(30, 29, 3, 196126);
        refill(x, 1, 7, 34, 26);
        DUE.is("first just 200000", x.couple(0, 1), 200000);
        x.restore();
        refill(x, 1, 6, 39, 27);
        DUE.is("first 200001", x.couple(0, 1), PlateSlabs.FULL);
        PlateSlabs y = nearlyFull(30, 26, 7, 199444);
        refill(y, 5, 6, 3, 11);
        DUE.is("other just 200000", y.couple(1, 0), 2469);
        DUE.is("charge of the other", y.pair(0, 8), 200000);
        DUE.is("its pull has room", y.pair(0, 11), 72L * 200000 * 200000 / (3240 * 3240));
        y.restore();
        refill(y, 2, 8, 7, 17);
        DUE.is("other 200001", y.couple(1, 0), PlateSlabs.FULL);
        DUE.is("the same turned round", y.couple(0, 1), 200000);
    }

    private static void passMoves() {
        PlateSlabs x = new PlateSlabs();
        DUE.is("pass(0)", x.pass(0), PlateSlabs.BAD_VALUE);
        DUE.is("pass(-1)", x.pass(-1), PlateSlabs.BAD_VALUE);
        DUE.is("pass(100)", x.pass(100), PlateSlabs.BAD_VALUE);
        DUE.is("tick", x.count(0), 0);
        DUE.is("pass(1)", x.pass(1), 0);
        DUE.is("recorded though nothing moves", x.count(9), 1);
        x.turnOn(0, 10);
        x.put(1, 39);
        x.turnOn(1, 10);
        x.put(2, 2);
        x.set(2, 2, 7);
        DUE.is("pass(1) of three", x.pass(1), 3);
        DUE.is("in", x.pair(0, 6), 1);
        DUE.is("in to the end", x.pair(1, 6), 40);
        DUE.is("out", x.pair(2, 6), 1);
        DUE.is("pass(2): only the last tick counts", x.pass(2), 1);
        DUE.is("steps", x.count(8), 6);
        DUE.is("tick", x.count(0), 4);
        DUE.is("out to the end", x.pair(2, 6), 0);
        DUE.is("charge follows the slab", x.pair(0, 8), 430);
        DUE.is("battery gave", x.book(0, 1), 20 * 430);
    }

    private static void passLeaks() {
        PlateSlabs x = new PlateSlabs();
        x.turnOn(0, 10);
        x.set(0, 5, 3);
        x.pass(1);
        DUE.is("no leak while on", x.pair(0, 8), 410);
        DUE.is("nothing leaked", x.book(0, 2), 0);
        x.turnOff(0);
        x.set(0, 4, 9999);
        x.pass(1);
        DUE.is("410 less 1", x.pair(0, 8), 409);
        DUE.is("leaked 4100 less 4079", x.book(0, 2), 4100 - 409 * 409 / 41);
        x.set(0, 5, 10);
        x.pass(1);
        DUE.is("409 less 4", x.pair(0, 8), 405);
        DUE.is("the leaks add up", x.book(0, 2), 4100 - 405 * 405 / 41);
        x.set(0, 5, 2);
        x.pass(99);
        DUE.is("less than 1 is nothing", x.pair(0, 8), 405);
        leakComesBeforeTheStep();
        leakIsBookedBeforeTheStep();
    }

    private static void leakComesBeforeTheStep() {
        PlateSlabs x = new PlateSlabs();
        x.turnOn(0, 10);
        x.turnOff(0);
        x.set(0, 4, 99);
        x.set(0, 5, 100);
        DUE.is("it would move now", x.reason(0), 0);
        DUE.is("with the leak it does not", x.pass(1), 0);
        DUE.is("restsIn looks at the leak", x.restsIn(0), 0);
    }

    private static void leakIsBookedBeforeTheStep() {
        PlateSlabs x = new PlateSlabs();
        x.turnOn(0, 10);
        x.turnOff(0);
        x.set(0, 5, 100);
        DUE.is("pass(1)", x.pass(1), 1);
        DUE.is("leaked", x.book(0, 2), 4000 - 360 * 360 / 40);
        DUE.is("stored", x.book(0, 0), 360 * 360 / 41);
        DUE.is("else", x.book(0, 4), 8000 - 3160 - 760);
    }

    private static void passEndsAtLastTick() {
        PlateSlabs x = new PlateSlabs();
        Due.write(x, ".99;.99;.99;.99;.99;.99;.99;.99;.99;.99;.99;.99;.99;.99;.99");
        for (int i = 0; i < 67; i++) {
            x.perform();
        }
        DUE.is("tick", x.count(0), 99495);
        for (int i = 0; i < 5; i++) {
            x.pass(99);
        }
        DUE.is("tick", x.count(0), 99990);
        DUE.is("pass(10)", x.pass(10), PlateSlabs.FULL);
        DUE.is("pass(100)", x.pass(100), PlateSlabs.BAD_VALUE);
        DUE.is("pass(9)", x.pass(9), 0);
        DUE.is("last tick", x.count(0), 99999);
        DUE.is("pass(1)", x.pass(1), PlateSlabs.FULL);
        DUE.is("perform()", x.perform(), PlateSlabs.NOT_POSSIBLE);
        DUE.is("stopped(0)", x.stopped(0), 0);
        DUE.is("stopped(1)", x.stopped(1), PlateSlabs.FULL);
    }
}
