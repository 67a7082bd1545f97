/** The edges of FORCES and of the promises 17, 18, 21, 22 and 23. */
public final class ForcesEdgesTest {
    private static final Due DUE = new Due("ForcesEdgesTest");
    private static final int MOVES_IN = 0;
    private static final int MOVES_OUT = 1;
    private static final int NO_FORCE = 2;
    private static final int FRICTION_HOLDS = 3;
    private static final int AT_THE_END = 4;

    public static void main(String[] args) {
        pullWhileOn();
        pullIsRoundedDown();
        pullIsTheSameAtEachDepthWhileOn();
        springs();
        netForces();
        forceWithTheChargeOfNow();
        frictionInward();
        frictionOutward();
        greatestFriction();
        roomAtTheEnds();
        reasonsInTheirOrder();
        reasonLooksAtNoLeak();
        leastVoltages();
        leastVoltageOfSpringAndEnd();
        leastVoltageOfThePlates();
        drawingVoltages();
        drawingVoltageOfThePlates();
        drawingVoltageHeldOnTheWay();
        strongestOfAll();
        weakestThatIsPulled();
        DUE.end();
    }

    /** "with the battery on, a * (k - 1) * v * v": from 0 to 64800 */
    private static void pullWhileOn() {
        for (int area = 1; area <= 9; area++) {
            for (int stuff = 1; stuff <= 9; stuff++) {
                PlateSlabs x = new PlateSlabs();
                x.set(0, 0, area);
                x.set(0, 1, stuff);
                for (int voltage = 0; voltage <= 30; voltage++) {
                    x.turnOn(0, voltage);
                    DUE.is("pull", x.pair(0, 11), (area * stuff - area) * voltage * voltage);
                }
            }
        }
        PlateSlabs x = new PlateSlabs();
        x.set(0, 0, 9);
        x.set(0, 1, 9);
        x.turnOn(0, 30);
        DUE.is("the greatest pull of a battery", x.pair(0, 11), 64800);
        x.set(0, 1, 1);
        DUE.is("no pull on a stuff of 1", x.pair(0, 11), 0);
        x.turnOff(0);
        DUE.is("nor when off", x.pair(0, 11), 0);
    }

    /** "otherwise a * (k - 1) * q * q / (c * c), rounded down" */
    private static void pullIsRoundedDown() {
        int[] charge = {40, 41, 56, 57, 69, 70, 79, 80};
        int[] pull = {1, 1, 1, 2, 2, 3, 3, 4};
        for (int i = 0; i < charge.length; i++) {
            PlateSlabs x = new PlateSlabs();
            Made.smallCharge(x, 0, charge[i]);
            DUE.is("pull by " + charge[i] + " on 40", x.pair(0, 11), pull[i]);
            DUE.is("force by " + charge[i] + " on 40", x.force(0, 0), pull[i]);
        }
        PlateSlabs x = new PlateSlabs();
        Made.smallCharge(x, 0, 40);
        DUE.is("40 on 40", x.pair(0, 11), 1);
        x.put(0, 1);
        DUE.is("40 on 41", x.pair(0, 11), 0);
        x.set(0, 1, 9);
        x.put(0, 0);
        DUE.is("8 * 1600 / 1600", x.pair(0, 11), 8);
        x.put(0, 1);
        DUE.is("12800 / 2304: rounded only once", x.pair(0, 11), 5);
        PlateSlabs y = Made.nearlyFull();
        DUE.is("72 * 196126 * 196126 / (3240 * 3240)", y.pair(0, 11), 263823);
        y.set(0, 0, 1);
        y.put(0, 0);
        DUE.is("8 * 196126 * 196126 / (40 * 40)", y.pair(0, 11), 192327039);
        DUE.is("its net force", y.force(0, 0), 192327039);
        DUE.is("it moves in", y.reason(0), MOVES_IN);
    }

    private static void pullIsTheSameAtEachDepthWhileOn() {
        PlateSlabs x = new PlateSlabs();
        x.turnOn(0, 7);
        for (int depth = 0; depth <= 40; depth++) {
            x.put(0, depth);
            DUE.is("pull at " + depth, x.pair(0, 11), 49);
        }
        x.turnOff(0);
        DUE.is("560 on 80 is 7", x.pair(0, 11), 49);
        x.put(0, 0);
        DUE.is("560 on 40 is 14", x.pair(0, 11), 196);
    }

    /** "s * (d - rest) (less than 0: it pushes the slab in)": told without its sign */
    private static void springs() {
        for (int rest = 0; rest <= 40; rest += 8) {
            PlateSlabs x = new PlateSlabs();
            Made.springs(x, 1, 999, rest, 0);
            for (int depth = 0; depth <= 40; depth++) {
                x.put(1, depth);
                int due = 999 * (depth < rest ? rest - depth : depth - rest);
                DUE.is("spring from " + rest + " at " + depth, x.pair(1, 12), due);
                DUE.is("force of it", x.force(1, depth), due);
                int reason = depth < rest ? MOVES_IN : depth > rest ? MOVES_OUT : NO_FORCE;
                DUE.is("reason of it", x.reason(1), reason);
            }
        }
        PlateSlabs x = new PlateSlabs();
        Made.springs(x, 0, 0, 40, 0);
        DUE.is("no spring", x.pair(0, 12), 0);
        DUE.is("no spring moves nothing", x.reason(0), NO_FORCE);
    }

    /** "The net force is the pull less what the spring draws back." */
    private static void netForces() {
        PlateSlabs x = new PlateSlabs();
        x.turnOn(0, 6);
        Made.springs(x, 0, 4, 10, 0);
        int[] depth = {0, 1, 10, 18, 19, 20, 40};
        int[] force = {76, 72, 36, 4, 0, 4, 84};
        int[] reason = {MOVES_IN, MOVES_IN, MOVES_IN, MOVES_IN, NO_FORCE, MOVES_OUT, MOVES_OUT};
        for (int i = 0; i < depth.length; i++) {
            x.put(0, 40 - depth[i]);
            DUE.is("force at " + depth[i], x.force(0, depth[i]), force[i]);
            x.put(0, depth[i]);
            DUE.is("force where it is", x.force(0, depth[i]), force[i]);
            DUE.is("reason at " + depth[i], x.reason(0), reason[i]);
        }
    }

    /** "if it was at a depth, with the charge of now if the battery is off" */
    private static void forceWithTheChargeOfNow() {
        PlateSlabs x = new PlateSlabs();
        x.put(0, 40);
        x.turnOn(0, 5);
        DUE.is("on: at 0", x.force(0, 0), 25);
        DUE.is("on: at 40", x.force(0, 40), 25);
        x.turnOff(0);
        DUE.is("off: 400 on 80", x.force(0, 40), 25);
        DUE.is("off: 400 on 40", x.force(0, 0), 100);
        DUE.is("off: 400 on 60: 44 and some", x.force(0, 20), 44);
        x.set(0, 5, 100);
        DUE.is("a leak is not looked at", x.force(0, 0), 100);
        x.pass(1);
        DUE.is("360 on 40", x.force(0, 0), 81);
        Made.springs(x, 0, 9, 0, 9999);
        DUE.is("friction is not looked at", x.force(0, 40), 360 - 20);
        DUE.is("the depth stays", x.pair(0, 6), 40);
        DUE.is("the charge stays", x.pair(0, 8), 360);
    }

    /** "A slab moves if its net force, without its sign, is greater than the friction" */
    private static void frictionInward() {
        for (int voltage = 1; voltage <= 30; voltage++) {
            PlateSlabs x = new PlateSlabs();
            x.turnOn(0, voltage);
            x.set(0, 4, voltage * voltage);
            DUE.is("friction as great as the force", x.reason(0), FRICTION_HOLDS);
            DUE.is("pass", x.pass(1), 0);
            DUE.is("depth", x.pair(0, 6), 0);
            x.set(0, 4, voltage * voltage + 1);
            DUE.is("friction greater by 1", x.reason(0), FRICTION_HOLDS);
            DUE.is("pass", x.pass(1), 0);
            x.set(0, 4, voltage * voltage - 1);
            DUE.is("friction less by 1", x.reason(0), MOVES_IN);
            DUE.is("pass", x.pass(1), 1);
            DUE.is("in by 1", x.pair(0, 6), 1);
        }
    }

    private static void frictionOutward() {
        for (int strength = 1; strength <= 999; strength += 37) {
            PlateSlabs x = new PlateSlabs();
            x.put(0, 9);
            Made.springs(x, 0, strength, 0, 9 * strength);
            DUE.is("friction as great as the force", x.reason(0), FRICTION_HOLDS);
            DUE.is("pass", x.pass(1), 0);
            DUE.is("depth", x.pair(0, 6), 9);
            x.set(0, 4, 9 * strength + 1);
            DUE.is("friction greater by 1", x.reason(0), FRICTION_HOLDS);
            x.set(0, 4, 9 * strength - 1);
            DUE.is("friction less by 1", x.reason(0), MOVES_OUT);
            DUE.is("pass", x.pass(1), 1);
            DUE.is("out by 1", x.pair(0, 6), 8);
        }
    }

    private static void greatestFriction() {
        PlateSlabs x = new PlateSlabs();
        Made.springs(x, 0, 909, 11, 9999);
        DUE.is("pushed by 9999", x.reason(0), FRICTION_HOLDS);
        Made.springs(x, 0, 250, 40, 9999);
        DUE.is("pushed by 10000", x.reason(0), MOVES_IN);
        x.put(0, 40);
        x.set(0, 3, 0);
        DUE.is("drawn back by 10000", x.reason(0), MOVES_OUT);
        DUE.is("it moves", x.pass(1), 1);
        DUE.is("drawn back by 9750", x.reason(0), FRICTION_HOLDS);
        DUE.is("it stays", x.pass(1), 0);
        DUE.is("depth", x.pair(0, 6), 39);
    }

    /** "in by 1 (d is 1 more, 40 at most) if the net force is above 0, out by 1 (0 at least) if it is below" */
    private static void roomAtTheEnds() {
        PlateSlabs x = new PlateSlabs();
        x.put(0, 39);
        x.turnOn(0, 1);
        DUE.is("from 39", x.pass(1), 1);
        DUE.is("to 40", x.pair(0, 6), 40);
        DUE.is("from 40", x.pass(1), 0);
        DUE.is("still 40", x.pair(0, 6), 40);
        DUE.is("charge of 40", x.pair(0, 8), 80);
        DUE.is("at the end", x.reason(0), AT_THE_END);
        x.turnOn(0, 0);
        x.put(0, 1);
        x.set(0, 2, 1);
        DUE.is("from 1", x.pass(1), 1);
        DUE.is("to 0", x.pair(0, 6), 0);
        DUE.is("from 0", x.pass(1), 0);
        DUE.is("still 0", x.pair(0, 6), 0);
        DUE.is("nothing draws it farther out than 0", x.reason(0), NO_FORCE);
        DUE.is("steps", x.count(8), 2);
    }

    /** "the first that holds: 2 the net force is 0, 3 it is not greater than the friction, 4 it is at the end" */
    private static void reasonsInTheirOrder() {
        PlateSlabs x = new PlateSlabs();
        x.put(0, 40);
        x.set(0, 4, 5);
        DUE.is("no force, friction, at 40", x.reason(0), NO_FORCE);
        x.turnOn(0, 2);
        DUE.is("force 4, friction 5, at 40", x.reason(0), FRICTION_HOLDS);
        x.set(0, 4, 4);
        DUE.is("force 4, friction 4, at 40", x.reason(0), FRICTION_HOLDS);
        x.set(0, 4, 3);
        DUE.is("force 4, friction 3, at 40", x.reason(0), AT_THE_END);
        x.set(0, 4, 0);
        DUE.is("force 4, no friction, at 40", x.reason(0), AT_THE_END);
        x.put(0, 39);
        DUE.is("force 4, no friction, at 39", x.reason(0), MOVES_IN);
        x.turnOn(0, 0);
        DUE.is("no force, no friction", x.reason(0), NO_FORCE);
        x.put(0, 0);
        DUE.is("no force, no friction, at 0", x.reason(0), NO_FORCE);
        Made.springs(x, 0, 1, 1, 0);
        DUE.is("pushed in by 1 at 0", x.reason(0), MOVES_IN);
        x.set(0, 4, 1);
        DUE.is("pushed in by 1, friction 1", x.reason(0), FRICTION_HOLDS);
        x.put(0, 40);
        DUE.is("drawn back by 39 at 40", x.reason(0), MOVES_OUT);
        x.set(0, 4, 39);
        DUE.is("drawn back by 39, friction 39", x.reason(0), FRICTION_HOLDS);
    }

    /** "by the charge of now (a leak of the next tick is not looked at)" */
    private static void reasonLooksAtNoLeak() {
        PlateSlabs x = new PlateSlabs();
        Made.smallCharge(x, 0, 40);
        x.set(0, 5, 100);
        DUE.is("pulled by 1", x.reason(0), MOVES_IN);
        DUE.is("as count tells it", x.count(2), 1);
        DUE.is("restsIn looks at the leak", x.restsIn(0), 0);
        DUE.is("the leak leaves no pull", x.pass(1), 0);
        DUE.is("not pulled", x.reason(0), NO_FORCE);
        DUE.is("as count tells it", x.count(2), 0);
    }

    /** "the least voltage with which, if the battery was on, a slab would move in now" */
    private static void leastVoltages() {
        for (int voltage = 1; voltage <= 30; voltage++) {
            PlateSlabs x = new PlateSlabs();
            x.set(0, 4, voltage * voltage - 1);
            DUE.is("just " + voltage, x.leastVoltage(0), voltage);
            DUE.is("just " + voltage + " all the way", x.drawingVoltage(0), voltage);
            x.set(0, 4, voltage * voltage);
            int more = voltage < 30 ? voltage + 1 : PlateSlabs.NONE;
            DUE.is("no more " + voltage, x.leastVoltage(0), more);
            DUE.is("no more " + voltage + " all the way", x.drawingVoltage(0), more);
        }
    }

    private static void leastVoltageOfSpringAndEnd() {
        PlateSlabs x = new PlateSlabs();
        Made.springs(x, 0, 2, 5, 10);
        DUE.is("pushed in by 10, friction 10", x.leastVoltage(0), 1);
        x.set(0, 4, 9);
        DUE.is("pushed in by 10, friction 9", x.leastVoltage(0), 0);
        x.turnOn(0, 30);
        DUE.is("with the battery on", x.leastVoltage(0), 0);
        x.put(0, 39);
        DUE.is("drawn back by 68, friction 9: 77", x.leastVoltage(0), 9);
        x.put(0, 40);
        DUE.is("no room at 40", x.leastVoltage(0), PlateSlabs.NONE);
        x.set(0, 3, 40);
        DUE.is("no room at 40, without a force", x.leastVoltage(0), PlateSlabs.NONE);
        x.put(0, 0);
        x.set(0, 1, 1);
        x.set(0, 4, 80);
        DUE.is("stuff 1, pushed in by 80, friction 80", x.leastVoltage(0), PlateSlabs.NONE);
        x.set(0, 4, 79);
        DUE.is("stuff 1, pushed in by 80, friction 79", x.leastVoltage(0), 0);
    }

    /** Neither the charge of now nor the voltage of now is looked at. */
    private static void leastVoltageOfThePlates() {
        PlateSlabs x = Made.nearlyFull();
        x.set(0, 0, 9);
        x.set(0, 1, 9);
        x.put(0, 0);
        x.set(0, 4, 8711);
        DUE.is("72 * 11 * 11 is 8712", x.leastVoltage(0), 11);
        DUE.is("all the way", x.drawingVoltage(0), 11);
        x.set(0, 4, 8712);
        DUE.is("8712 is not greater", x.leastVoltage(0), 12);
        DUE.is("all the way", x.drawingVoltage(0), 12);
        x.set(0, 4, 9999);
        DUE.is("72 * 12 * 12 is 10368", x.leastVoltage(0), 12);
        DUE.is("the battery is still off", x.pair(0, 10), 0);
        DUE.is("the charge is as it was", x.pair(0, 8), 196126);
    }

    /** "a slab would come all the way in, to the depth 40": so the spring at 39 counts, not that at 40 */
    private static void drawingVoltages() {
        PlateSlabs x = new PlateSlabs();
        Made.springs(x, 0, 9, 0, 9);
        DUE.is("351 and 9 are less than 361", x.drawingVoltage(0), 19);
        x.set(0, 4, 10);
        DUE.is("351 and 10 are not", x.drawingVoltage(0), 20);
        x.set(0, 4, 548);
        DUE.is("351 and 548 are 899", x.drawingVoltage(0), 30);
        x.set(0, 4, 549);
        DUE.is("351 and 549 are 900", x.drawingVoltage(0), PlateSlabs.NONE);
        x.put(0, 40);
        DUE.is("0 if it is there", x.drawingVoltage(0), 0);
        x.set(0, 4, 0);
        DUE.is("0 if it is there, though drawn back", x.drawingVoltage(0), 0);
        x.put(0, 39);
        x.set(0, 3, 39);
        DUE.is("the last step", x.drawingVoltage(0), 1);
        x.set(0, 3, 40);
        DUE.is("the last step by the spring", x.drawingVoltage(0), 0);
    }

    private static void drawingVoltageOfThePlates() {
        PlateSlabs x = new PlateSlabs();
        x.set(0, 1, 1);
        DUE.is("stuff 1 is not drawn", x.drawingVoltage(0), PlateSlabs.NONE);
        DUE.is("nor by a step", x.leastVoltage(0), PlateSlabs.NONE);
        x.put(0, 40);
        DUE.is("but it may be there", x.drawingVoltage(0), 0);
        x.put(0, 0);
        Made.springs(x, 0, 1, 40, 0);
        DUE.is("pushed all the way", x.drawingVoltage(0), 0);
        x.set(0, 4, 1);
        DUE.is("pushed to 39", x.drawingVoltage(0), PlateSlabs.NONE);
        x.set(0, 1, 2);
        DUE.is("pushed to 39, drawn to 40", x.drawingVoltage(0), 1);
        x.set(0, 3, 39);
        DUE.is("pushed to 38, drawn to 40", x.drawingVoltage(0), 2);
        x.turnOn(0, 30);
        DUE.is("not the voltage of now", x.drawingVoltage(0), 2);
        DUE.is("the depth stays", x.pair(0, 6), 0);
    }

    /** A force that draws it in at its place may be too little farther in, and it swings there. */
    private static void drawingVoltageHeldOnTheWay() {
        PlateSlabs x = new PlateSlabs();
        Made.springs(x, 0, 10, 0, 0);
        for (int depth = 0; depth <= 39; depth++) {
            x.put(0, depth);
            int least = 0;
            while (least * least <= 10 * depth) {
                least++;
            }
            DUE.is("a step from " + depth, x.leastVoltage(0), least);
            DUE.is("all the way from " + depth, x.drawingVoltage(0), 20);
        }
        x.put(0, 0);
        x.turnOn(0, 19);
        DUE.is("19 swings", x.depthIn(0, 400) == 40 ? 1 : 0, 0);
        x.turnOn(0, 20);
        DUE.is("20 draws it in", x.depthIn(0, 40), 40);
    }

    /** "Finds the pair with the greatest pull, of several the lowest." */
    private static void strongestOfAll() {
        for (int strong = 0; strong < 4; strong++) {
            PlateSlabs x = new PlateSlabs();
            DUE.is("no slab is pulled", x.strongest(), PlateSlabs.NONE);
            for (int pair = 3; pair >= 0; pair--) {
                x.turnOn(pair, 3);
                DUE.is("as great as those above", x.strongest(), pair);
            }
            x.turnOn(strong, 4);
            DUE.is("the greatest of all", x.strongest(), strong);
            for (int pair = 0; pair < 4; pair++) {
                x.turnOn(pair, pair == strong ? 2 : 3);
            }
            DUE.is("the lowest of three", x.strongest(), strong == 0 ? 1 : 0);
        }
    }

    /** "NONE if no slab is pulled": springs pull no slab, and a pull may be rounded down to 0 */
    private static void weakestThatIsPulled() {
        PlateSlabs x = new PlateSlabs();
        Made.springs(x, 1, 999, 40, 0);
        DUE.is("a spring is no pull", x.strongest(), PlateSlabs.NONE);
        x.turnOn(2, 0);
        DUE.is("a voltage of 0", x.strongest(), PlateSlabs.NONE);
        Made.smallCharge(x, 3, 40);
        DUE.is("a pull of 1", x.strongest(), 3);
        x.put(3, 1);
        DUE.is("40 on 41", x.strongest(), PlateSlabs.NONE);
        x.put(3, 0);
        x.set(3, 1, 1);
        DUE.is("stuff 1", x.strongest(), PlateSlabs.NONE);
        x.set(0, 1, 1);
        x.turnOn(0, 30);
        DUE.is("stuff 1 with a battery", x.strongest(), PlateSlabs.NONE);
    }
}
