/** Objects in states that the tests of edges need, each made by few calls. */
final class Made {
    /** A trial that changes each number of leaking() that a trial can change. */
    static final String ALL_OF_A_STATE = ".9;c01;c23;b0=1;b1=2;b2=3;b3=4;d0=5;d1=6;d2=7;d3=8;.1";
    private static final String MANY_TICKS = ".99;.99;.99;.99;.99;.99;.99;.99;.99;.99;.99;.99;.99;.99;.99";

    private Made() {
    }

    /** A pair whose battery was on and is off again; its slab is where it was charged. */
    static void charge(PlateSlabs x, int pair, int area, int stuff, int depth, int voltage) {
        x.set(pair, 0, area);
        x.set(pair, 1, stuff);
        x.put(pair, depth);
        x.turnOn(pair, voltage);
        x.turnOff(pair);
    }

    /** A charge from 40 to 80 on plates of area 1 and stuff 2, whose slab is at 0 then. */
    static void smallCharge(PlateSlabs x, int pair, int charge) {
        charge(x, pair, 1, 2, charge - 40, 1);
        x.put(pair, 0);
    }

    static void springs(PlateSlabs x, int pair, int strength, int rest, int friction) {
        x.set(pair, 2, strength);
        x.set(pair, 3, rest);
        x.set(pair, 4, friction);
    }

    /** Pair 0 with a charge of 196126 and a capacity of 3240, pair 1 with the rest and one of 40. */
    static PlateSlabs nearlyFull() {
        return nearlyFull(29, 3);
    }

    /** Pair 0 gets nearly all of what pair 1 is charged with by the two voltages, behind its own by 30. */
    static PlateSlabs nearlyFull(int voltage, int secondVoltage) {
        PlateSlabs x = new PlateSlabs();
        charge(x, 0, 9, 9, 40, 30);
        refill(x, 9, 9, 40, voltage);
        x.couple(0, 1);
        refill(x, 9, 9, 40, secondVoltage);
        x.couple(0, 1);
        return x;
    }

    /** Charges pair 1 anew, and gives it a capacity of 40 then. */
    static void refill(PlateSlabs x, int area, int stuff, int depth, int voltage) {
        charge(x, 1, area, stuff, depth, voltage);
        x.set(1, 0, 1);
        x.put(1, 0);
    }

    /** Four pairs that are off, charged, pulled in and leaking: ALL_OF_A_STATE changes all but their settings. */
    static PlateSlabs leaking() {
        PlateSlabs x = new PlateSlabs();
        for (int pair = 0; pair < 4; pair++) {
            charge(x, pair, 2 + pair, 3 + pair, 9 * pair, 20 + pair);
            springs(x, pair, 5 + pair, 2 * pair + 1, 3 + pair);
            x.set(pair, 5, 10 + pair);
        }
        return x;
    }

    /** At a tick from 99495 to 99999, with a text of 59 characters, and without charges. */
    static PlateSlabs late(int tick) {
        PlateSlabs x = new PlateSlabs();
        Due.write(x, MANY_TICKS);
        for (int i = 0; i < 67; i++) {
            x.perform();
        }
        int left = tick - 67 * 1485;
        while (left > 0) {
            x.pass(Math.min(left, 99));
            left -= Math.min(left, 99);
        }
        return x;
    }

    /** Something of everything: batteries on and off, charges, a snapshot, a stop, four states, a text. */
    static PlateSlabs rich() {
        PlateSlabs x = new PlateSlabs();
        x.set(0, 1, 5);
        x.set(1, 0, 3);
        springs(x, 1, 7, 12, 2);
        x.set(3, 5, 20);
        Due.performed(x, "b0=9;d0=10;b1=12;o1;b3=30;o3;c13;.7");
        x.keep();
        Due.performed(x, "b2=0;c22");
        x.put(2, 5);
        x.set(2, 0, 4);
        x.turnOn(2, 8);
        x.pass(2);
        Due.write(x, "d0=3;o2");
        return x;
    }
}
