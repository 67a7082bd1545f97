/** The edges of TICKS and of the promises 7, 19 and 20. */
public final class TicksEdgesTest {
    private static final Due DUE = new Due("TicksEdgesTest");

    public static void main(String[] args) {
        leaksAreRoundedDown();
        leastAndGreatestLeak();
        smallestChargesThatLeak();
        noLeakWhileOn();
        leakComesBeforeTheMove();
        chargeFollowsTheMove();
        onlyTheLeakIsLeaked();
        leakOfNoEnergy();
        movedInTheLastTick();
        stepsOfAllTicks();
        manyTicksAreSingleTicks();
        lastTick();
        lastTickByTrials();
        lastTickIsKept();
        restsInEdges();
        restsInWithTheLeak();
        restsInOf400();
        depthInEdges();
        depthInIsPass();
        neitherLooksAtOtherPairs();
        DUE.end();
    }

    /** "its charge becomes less by q * l / 1000, rounded down, l being its leak (0 to 100)" */
    private static void leaksAreRoundedDown() {
        for (int leak = 0; leak <= 100; leak++) {
            PlateSlabs x = new PlateSlabs();
            x.set(0, 5, leak);
            x.set(0, 4, 9999);
            for (int voltage = 1; voltage <= 30; voltage++) {
                x.turnOn(0, voltage);
                x.turnOff(0);
                x.pass(1);
                int charge = 40 * voltage;
                int lost = 0;
                while ((lost + 1) * 1000 <= charge * leak) {
                    lost++;
                }
                DUE.is("leak " + leak + " of " + charge, x.pair(0, 8), charge - lost);
            }
        }
    }

    private static void leastAndGreatestLeak() {
        PlateSlabs x = new PlateSlabs();
        Made.charge(x, 0, 1, 2, 0, 25);
        x.set(0, 4, 9999);
        x.pass(99);
        DUE.is("no leak", x.pair(0, 8), 1000);
        DUE.is("nothing leaked", x.book(0, 2), 0);
        x.set(0, 5, 1);
        x.pass(1);
        DUE.is("1 of 1000", x.pair(0, 8), 999);
        x.pass(99);
        DUE.is("999 of 1000 is nothing", x.pair(0, 8), 999);
        x.set(0, 5, 100);
        x.pass(1);
        DUE.is("99.9 of 999", x.pair(0, 8), 900);
        PlateSlabs y = Made.nearlyFull();
        y.set(0, 5, 100);
        y.pass(1);
        DUE.is("19612.6 of 196126", y.pair(0, 8), 196126 - 19612);
        DUE.is("the other does not leak", y.pair(1, 8), 2422);
    }

    private static void smallestChargesThatLeak() {
        PlateSlabs x = new PlateSlabs();
        Made.smallCharge(x, 0, 40);
        x.set(0, 4, 9999);
        x.set(0, 5, 24);
        x.pass(1);
        DUE.is("960 of 1000 is nothing", x.pair(0, 8), 40);
        x.set(0, 5, 25);
        x.pass(1);
        DUE.is("1000 of 1000 is 1", x.pair(0, 8), 39);
        x.pass(1);
        DUE.is("975 of 1000 is nothing", x.pair(0, 8), 39);
        x.set(0, 5, 100);
        int[] due = {36, 33, 30, 27, 25, 23, 21, 19, 18, 17, 16, 15, 14, 13, 12, 11, 10, 9, 9, 9};
        for (int charge : due) {
            x.pass(1);
            DUE.is("a tenth leaks", x.pair(0, 8), charge);
        }
        x.turnOn(0, 0);
        x.turnOff(0);
        x.pass(99);
        DUE.is("no charge, no leak", x.pair(0, 8), 0);
    }

    /** "if its battery is off": a pair that is on loses nothing, also at a voltage of 0 */
    private static void noLeakWhileOn() {
        PlateSlabs x = new PlateSlabs();
        x.set(0, 5, 100);
        x.set(0, 4, 9999);
        x.turnOn(0, 30);
        x.pass(99);
        DUE.is("charge", x.pair(0, 8), 1200);
        DUE.is("leaked", x.book(0, 2), 0);
        DUE.is("given", x.book(0, 1), 60 * 1200);
        x.turnOff(0);
        x.pass(1);
        DUE.is("off: it leaks", x.pair(0, 8), 1080);
        DUE.is("leaked", x.book(0, 2), 36000 - 1080 * 1080 / 40);
        x.turnOn(0, 30);
        x.pass(1);
        DUE.is("on again", x.pair(0, 8), 1200);
        DUE.is("leaked stays", x.book(0, 2), 36000 - 29160);
        DUE.is("the battery gives what had leaked", x.book(0, 1), 60 * 1200 + 60 * 120);
    }

    /** "then the slab moves by its net force": by the charge behind the leak */
    private static void leakComesBeforeTheMove() {
        PlateSlabs x = new PlateSlabs();
        Made.charge(x, 0, 1, 2, 0, 10);
        x.set(0, 5, 100);
        x.set(0, 4, 81);
        DUE.is("100 is greater than 81", x.reason(0), 0);
        DUE.is("81 is not", x.pass(1), 0);
        DUE.is("depth", x.pair(0, 6), 0);
        x.undo();
        x.set(0, 4, 80);
        DUE.is("81 is greater than 80", x.pass(1), 1);
        DUE.is("depth", x.pair(0, 6), 1);
        DUE.is("charge", x.pair(0, 8), 360);
    }

    /** "then the charge is as told, if the battery is on" */
    private static void chargeFollowsTheMove() {
        PlateSlabs x = new PlateSlabs();
        x.set(0, 0, 2);
        x.set(0, 1, 4);
        x.turnOn(0, 3);
        DUE.is("in", x.pass(1), 1);
        DUE.is("charge of 1", x.pair(0, 8), 3 * 86);
        DUE.is("given", x.book(0, 1), 6 * 3 * 86);
        x.set(0, 2, 999);
        DUE.is("out", x.pass(1), 1);
        DUE.is("charge of 0", x.pair(0, 8), 3 * 80);
        DUE.is("given back", x.book(0, 1), 6 * 3 * 80);
        x.turnOff(0);
        x.set(0, 2, 0);
        DUE.is("in, off", x.pass(1), 1);
        DUE.is("charge stays", x.pair(0, 8), 3 * 80);
        DUE.is("nothing is given", x.book(0, 1), 6 * 3 * 80);
        DUE.is("stored is less", x.book(0, 0), 240 * 240 / 86);
        DUE.is("nothing leaked", x.book(0, 2), 0);
    }

    /** "What the stored energy of a pair becomes less by a leak is leaked": not what it does by a move */
    private static void onlyTheLeakIsLeaked() {
        PlateSlabs x = new PlateSlabs();
        Made.charge(x, 0, 1, 2, 0, 10);
        x.set(0, 5, 50);
        DUE.is("moved", x.pass(1), 1);
        DUE.is("4000 less 3610", x.book(0, 2), 390);
        DUE.is("stored: 380 on 41", x.book(0, 0), 3521);
        DUE.is("else", x.book(0, 4), 8000 - 3521 - 390);
        DUE.is("moved", x.pass(1), 1);
        DUE.is("3521 less 3178 more", x.book(0, 2), 390 + 3521 - 361 * 361 / 41);
        DUE.is("stored: 361 on 42", x.book(0, 0), 361 * 361 / 42);
    }

    /** A charge may leak so little, that the stored energy, rounded down, stays. */
    private static void leakOfNoEnergy() {
        PlateSlabs x = new PlateSlabs();
        Made.smallCharge(x, 0, 40);
        x.set(0, 4, 9999);
        x.set(0, 5, 100);
        x.set(0, 0, 9);
        x.set(0, 1, 9);
        x.put(0, 40);
        DUE.is("1600 / 3240", x.book(0, 0), 0);
        x.pass(1);
        DUE.is("charge", x.pair(0, 8), 36);
        DUE.is("nothing leaked", x.book(0, 2), 0);
        DUE.is("else", x.book(0, 4), 80);
    }

    /** "Returns how many slabs moved in the last one of them" */
    private static void movedInTheLastTick() {
        PlateSlabs x = new PlateSlabs();
        DUE.is("none", x.pass(1), 0);
        for (int pair = 0; pair < 4; pair++) {
            x.put(pair, 36 + pair);
            x.turnOn(pair, 1);
        }
        x.keep();
        int[] moved = {4, 3, 2, 1, 0};
        for (int ticks = 1; ticks <= 5; ticks++) {
            x.restore();
            DUE.is("pass(" + ticks + ")", x.pass(ticks), moved[ticks - 1]);
            DUE.is("steps", x.count(8), new int[] {4, 7, 9, 10, 10}[ticks - 1]);
        }
        DUE.is("all are in", x.count(6), 4);
        x.restore();
        x.set(1, 2, 999);
        x.set(3, 2, 999);
        DUE.is("in and out count alike", x.pass(1), 4);
        DUE.is("out", x.pair(1, 6), 36);
        DUE.is("out", x.pair(3, 6), 38);
        DUE.is("in", x.pair(2, 6), 39);
    }

    private static void stepsOfAllTicks() {
        PlateSlabs x = new PlateSlabs();
        x.turnOn(0, 1);
        x.turnOn(3, 1);
        x.put(3, 30);
        DUE.is("by hand is no step", x.count(8), 0);
        x.pass(99);
        DUE.is("40 and 10", x.count(8), 50);
        x.undo();
        DUE.is("undone", x.count(8), 0);
        Due.performed(x, ".9;d0=0;.5");
        DUE.is("9 and 9, 5 and 1", x.count(8), 24);
    }

    private static void manyTicksAreSingleTicks() {
        PlateSlabs x = Made.rich();
        PlateSlabs like = Made.rich();
        x.pass(99);
        for (int i = 0; i < 99; i++) {
            like.pass(1);
        }
        DUE.same("pass(99)", Sight.ofState(x), Sight.ofState(like));
    }

    /** "FULL if the tick would be beyond 99999" */
    private static void lastTick() {
        PlateSlabs x = Made.late(99900);
        x.keep();
        DUE.is("pass(99) to 99999", x.pass(99), 0);
        DUE.is("tick", x.count(0), 99999);
        DUE.is("pass(1)", x.pass(1), PlateSlabs.FULL);
        DUE.is("undo()", x.undo(), 3);
        x.pass(1);
        DUE.is("pass(99) to 100000", x.pass(99), PlateSlabs.FULL);
        DUE.is("tick", x.count(0), 99901);
        DUE.is("pass(98) to 99999", x.pass(98), 0);
        DUE.is("tick", x.count(0), 99999);
        for (int ticks = 1; ticks <= 99; ticks++) {
            DUE.is("pass(" + ticks + ") at 99999", x.pass(ticks), PlateSlabs.FULL);
        }
        DUE.is("restore()", x.restore(), 99900);
        DUE.is("pass(98) to 99998", x.pass(98), 0);
        DUE.is("pass(2) to 100000", x.pass(2), PlateSlabs.FULL);
        DUE.is("pass(1) to 99999", x.pass(1), 0);
        DUE.is("tick", x.count(0), 99999);
    }

    private static void lastTickByTrials() {
        PlateSlabs x = Made.late(99898);
        DUE.is("to 99999", Due.performed(x, ".2;.98;.1"), 3);
        DUE.is("tick", x.count(0), 99999);
        x.undo();
        DUE.is("to 100000", Due.performed(x, ".2;.99;.1"), PlateSlabs.NOT_POSSIBLE);
        DUE.is("the third", x.stopped(0), 2);
        DUE.is("stopped by", x.stopped(1), PlateSlabs.FULL);
        DUE.is("tick", x.count(0), 99898);
        DUE.is("far beyond", Due.performed(x, ".99;.99;.99"), PlateSlabs.NOT_POSSIBLE);
        DUE.is("the second", x.stopped(0), 1);
    }

    private static void lastTickIsKept() {
        PlateSlabs x = Made.late(99999);
        DUE.is("keep() tells it", x.keep(), 99999);
        x.turnOn(0, 1);
        DUE.is("restore() tells it", x.restore(), 99999);
        DUE.is("turnOn is an act of the last tick", x.turnOn(0, 2), 80);
        DUE.is("what would be is still told", x.depthIn(0, 400), 40);
        DUE.is("what would be is still told", x.restsIn(0), 40);
        DUE.is("but it can't pass", x.pass(1), PlateSlabs.FULL);
    }

    /** "behind how many ticks a slab does not move in the next one": 0 if it does not move at all */
    private static void restsInEdges() {
        PlateSlabs x = new PlateSlabs();
        DUE.is("without a force", x.restsIn(0), 0);
        x.turnOn(0, 1);
        for (int depth = 0; depth <= 40; depth++) {
            x.put(0, depth);
            DUE.is("from " + depth, x.restsIn(0), 40 - depth);
        }
        x.turnOn(0, 0);
        x.set(0, 2, 1);
        for (int depth = 0; depth <= 40; depth++) {
            x.put(0, depth);
            DUE.is("back from " + depth, x.restsIn(0), depth);
        }
        x.set(0, 4, 5);
        x.put(0, 5);
        DUE.is("friction as great as the spring", x.restsIn(0), 0);
        x.put(0, 6);
        DUE.is("a step, then friction", x.restsIn(0), 1);
        x.turnOn(0, 3);
        x.put(0, 0);
        DUE.is("9 less 3 is 6, 9 less 4 is 5", x.restsIn(0), 4);
        x.set(0, 4, 0);
        DUE.is("9 at 9", x.restsIn(0), 9);
        x.set(0, 2, 2);
        DUE.is("between 4 and 5", x.restsIn(0), PlateSlabs.NONE);
    }

    /** "(with the leak of that tick)" */
    private static void restsInWithTheLeak() {
        PlateSlabs x = new PlateSlabs();
        Made.charge(x, 0, 1, 2, 0, 10);
        x.set(0, 5, 100);
        x.set(0, 4, 80);
        DUE.is("81 behind the leak, then 324 on 41: 62", x.restsIn(0), 1);
        x.set(0, 4, 81);
        DUE.is("81 behind the leak is not enough", x.restsIn(0), 0);
        x.set(0, 4, 0);
        restsWhenTold(x);
        DUE.is("and that is told behind it", x.restsIn(0), 0);
        PlateSlabs y = new PlateSlabs();
        Made.charge(y, 0, 1, 2, 10, 10);
        Made.springs(y, 0, 10, 0, 18);
        y.set(0, 5, 100);
        DUE.is("by the charge of now there is no force", y.reason(0), 2);
        DUE.is("81 less 100 behind the leak moves it out", y.restsIn(0) > 0 ? 1 : 0, 1);
        DUE.is("out", y.depthIn(0, 1), 9);
        restsWhenTold(y);
    }

    private static void restsWhenTold(PlateSlabs x) {
        int ticks = x.restsIn(0);
        for (int i = 0; i < ticks; i++) {
            DUE.is("it moves in tick " + i, x.pass(1), 1);
        }
        DUE.is("then it does not", x.pass(1), 0);
    }

    /** "NONE if that is more than 400" */
    private static void restsInOf400() {
        PlateSlabs x = new PlateSlabs();
        Made.charge(x, 0, 5, 6, 0, 7);
        Made.springs(x, 0, 89, 21, 1);
        x.set(0, 5, 6);
        x.put(0, 14);
        DUE.is("401 ticks", x.restsIn(0), PlateSlabs.NONE);
        DUE.is("it moves in the first", x.pass(1), 1);
        for (int left = 400; left > 350; left--) {
            DUE.is(left + " ticks are left", x.restsIn(0), left);
            DUE.is("it moves", x.pass(1), 1);
        }
        for (int i = 0; i < 350; i++) {
            DUE.is("it moves at " + i, x.pass(1), 1);
        }
        DUE.is("it rests", x.pass(1), 0);
    }

    private static void depthInEdges() {
        PlateSlabs x = new PlateSlabs();
        DUE.is("it stays", x.depthIn(0, 1), 0);
        DUE.is("it stays", x.depthIn(0, 400), 0);
        x.turnOn(0, 3);
        x.put(0, 38);
        DUE.is("1 tick", x.depthIn(0, 1), 39);
        DUE.is("2 ticks", x.depthIn(0, 2), 40);
        DUE.is("3 ticks", x.depthIn(0, 3), 40);
        x.set(0, 2, 2);
        DUE.is("back by 1", x.depthIn(0, 1), 37);
        DUE.is("between 4 and 5, even", x.depthIn(0, 400), 4);
        DUE.is("between 4 and 5, odd", x.depthIn(0, 399), 5);
        DUE.is("0 ticks", x.depthIn(0, 0), PlateSlabs.BAD_VALUE);
        DUE.is("401 ticks", x.depthIn(0, 401), PlateSlabs.BAD_VALUE);
        DUE.is("the depth stays", x.pair(0, 6), 38);
        DUE.is("the charge stays", x.pair(0, 8), 3 * 78);
    }

    /** What is told of 400 ticks is so when they pass, in each of them. */
    private static void depthInIsPass() {
        int[] told = new int[401];
        PlateSlabs x = leaking();
        for (int ticks = 1; ticks <= 400; ticks++) {
            told[ticks] = x.depthIn(0, ticks);
        }
        DUE.is("nothing has leaked", x.pair(0, 8), 2520);
        PlateSlabs y = leaking();
        for (int ticks = 1; ticks <= 200; ticks++) {
            y.pass(1);
            DUE.is("tick " + ticks, y.pair(0, 6), told[ticks]);
        }
        y.pass(99);
        y.pass(99);
        y.pass(2);
        DUE.is("tick 400", y.pair(0, 6), told[400]);
    }

    private static PlateSlabs leaking() {
        PlateSlabs x = new PlateSlabs();
        Made.charge(x, 0, 3, 9, 10, 7);
        Made.springs(x, 0, 11, 6, 4);
        x.set(0, 5, 9);
        return x;
    }

    private static void neitherLooksAtOtherPairs() {
        PlateSlabs x = new PlateSlabs();
        for (int pair = 0; pair < 4; pair++) {
            x.turnOn(pair, 1);
            x.put(pair, 10 * pair);
        }
        for (int pair = 0; pair < 4; pair++) {
            DUE.is("restsIn(" + pair + ")", x.restsIn(pair), 40 - 10 * pair);
            DUE.is("depthIn(" + pair + ", 7)", x.depthIn(pair, 7), 10 * pair + 7);
        }
    }
}
