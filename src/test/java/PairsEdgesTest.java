/** The edges of PLATES, SLABS and of the promises 2 to 6: capacities, charges, batteries, couplings. */
public final class PairsEdgesTest {
    private static final Due DUE = new Due("PairsEdgesTest");

    public static void main(String[] args) {
        capacities();
        chargesWhileOn();
        givenBySet();
        givenByPut();
        givenByTurnOn();
        givenLessThanNothing();
        nothingIsGivenWhileOff();
        storedIsRoundedDown();
        turnOnTwice();
        turnOffTwice();
        theSmallestCharges();
        theFirstIsRoundedDown();
        chargesThatStay();
        halvesOfSparks();
        mostChargeOfTheFirst();
        mostChargeOfTheOther();
        togetherMoreThanTheMost();
        DUE.end();
    }

    /** "Its capacity is c = a * (40 + (k - 1) * d)": from 40 to 3240. */
    private static void capacities() {
        for (int area = 1; area <= 9; area++) {
            for (int stuff = 1; stuff <= 9; stuff++) {
                PlateSlabs x = new PlateSlabs();
                x.set(2, 0, area);
                x.set(2, 1, stuff);
                for (int depth = 0; depth <= 40; depth++) {
                    x.put(2, depth);
                    int due = area * 40 + area * stuff * depth - area * depth;
                    DUE.is("capacity " + area + " " + stuff + " " + depth, x.pair(2, 7), due);
                }
            }
        }
        PlateSlabs x = new PlateSlabs();
        DUE.is("the capacity of first", x.pair(0, 7), 40);
        x.set(0, 1, 1);
        x.put(0, 40);
        DUE.is("stuff 1 adds nothing", x.pair(0, 7), 40);
        x.set(0, 1, 9);
        x.set(0, 0, 9);
        DUE.is("the greatest", x.pair(0, 7), 3240);
    }

    /** "While its battery is on, the charge of a pair is c * v": from 0 to 97200. */
    private static void chargesWhileOn() {
        for (int area = 1; area <= 9; area += 4) {
            for (int stuff = 1; stuff <= 9; stuff += 4) {
                for (int depth = 0; depth <= 40; depth += 20) {
                    PlateSlabs x = new PlateSlabs();
                    x.set(1, 0, area);
                    x.set(1, 1, stuff);
                    x.put(1, depth);
                    for (int voltage = 0; voltage <= 30; voltage++) {
                        int due = x.pair(1, 7) * voltage;
                        DUE.is("turnOn", x.turnOn(1, voltage), due);
                        DUE.is("charge", x.pair(1, 8), due);
                        DUE.is("stored", x.book(1, 0), (long) voltage * due);
                    }
                }
            }
        }
        PlateSlabs x = new PlateSlabs();
        x.set(0, 0, 9);
        x.set(0, 1, 9);
        x.put(0, 40);
        DUE.is("the greatest by a battery", x.turnOn(0, 30), 97200);
        DUE.is("the least by a battery", x.turnOn(0, 0), 0);
    }

    /** "whenever that changes, the battery gives 2 * v times by how much the charge becomes greater" */
    private static void givenBySet() {
        PlateSlabs x = new PlateSlabs();
        x.put(0, 7);
        x.turnOn(0, 5);
        DUE.is("given by turnOn", x.book(0, 1), 10 * 235);
        DUE.is("set area", x.set(0, 0, 2), 1);
        DUE.is("charge of more area", x.pair(0, 8), 470);
        DUE.is("given for more area", x.book(0, 1), 10 * 470);
        x.set(0, 1, 3);
        DUE.is("charge of more stuff", x.pair(0, 8), 540);
        DUE.is("given for more stuff", x.book(0, 1), 10 * 540);
        x.set(0, 1, 1);
        DUE.is("charge of no stuff", x.pair(0, 8), 400);
        DUE.is("given back for no stuff", x.book(0, 1), 10 * 400);
        x.set(0, 0, 1);
        DUE.is("given back for less area", x.book(0, 1), 10 * 200);
        for (int which = 2; which < 6; which++) {
            x.set(0, which, 9);
            DUE.is("charge stays by setting " + which, x.pair(0, 8), 200);
            DUE.is("nothing given by setting " + which, x.book(0, 1), 10 * 200);
        }
        x.put(0, 0);
        x.set(0, 1, 9);
        DUE.is("stuff at the depth 0 is nothing", x.pair(0, 8), 200);
        DUE.is("nothing given", x.book(0, 1), 10 * 200);
    }

    private static void givenByPut() {
        PlateSlabs x = new PlateSlabs();
        x.turnOn(0, 3);
        x.put(0, 40);
        DUE.is("charge of all in", x.pair(0, 8), 240);
        DUE.is("given for all in", x.book(0, 1), 6 * 240);
        x.put(0, 0);
        DUE.is("charge of all out", x.pair(0, 8), 120);
        DUE.is("given back for all out", x.book(0, 1), 6 * 120);
        DUE.is("what is else", x.book(0, 4), 6 * 120 - 3 * 120);
        x.turnOn(0, 0);
        x.put(0, 40);
        DUE.is("nothing by a voltage of 0", x.pair(0, 8), 0);
        DUE.is("nothing given by a voltage of 0", x.book(0, 1), 6 * 120);
    }

    /** The voltage is the one that the battery has then. */
    private static void givenByTurnOn() {
        PlateSlabs x = new PlateSlabs();
        x.turnOn(0, 4);
        DUE.is("0 to 160 by 4", x.book(0, 1), 8 * 160);
        x.turnOn(0, 5);
        DUE.is("160 to 200 by 5", x.book(0, 1), 8 * 160 + 10 * 40);
        x.turnOn(0, 4);
        DUE.is("200 to 160 by 4", x.book(0, 1), 8 * 160 + 10 * 40 - 8 * 40);
        x.turnOn(0, 0);
        DUE.is("160 to 0 by 0", x.book(0, 1), 8 * 160 + 10 * 40 - 8 * 40);
        x.turnOn(0, 30);
        DUE.is("0 to 1200 by 30", x.book(0, 1), 8 * 160 + 10 * 40 - 8 * 40 + 60 * 1200);
        x.turnOff(0);
        x.put(0, 10);
        x.turnOn(0, 30);
        DUE.is("1200 to 1500 by 30", x.book(0, 1), 8 * 160 + 10 * 40 - 8 * 40 + 60 * 1500);
    }

    /** "(less than 0 if it becomes less)" */
    private static void givenLessThanNothing() {
        PlateSlabs x = new PlateSlabs();
        x.put(0, 40);
        x.turnOn(0, 30);
        x.turnOff(0);
        x.couple(1, 0);
        DUE.is("charge by coupling", x.pair(1, 8), 800);
        DUE.is("nothing was given", x.book(1, 1), 0);
        x.turnOn(1, 19);
        DUE.is("800 to 760 by 19", x.book(1, 1), -38 * 40);
        DUE.is("what is else", x.book(1, 4), -38 * 40 - 19 * 760 - x.book(1, 3));
        x.turnOn(1, 20);
        DUE.is("760 to 800 by 20", x.book(1, 1), -38 * 40 + 40 * 40);
    }

    private static void nothingIsGivenWhileOff() {
        PlateSlabs x = new PlateSlabs();
        Made.charge(x, 0, 2, 5, 20, 6);
        DUE.is("charge", x.pair(0, 8), 1440);
        DUE.is("given", x.book(0, 1), 12 * 1440);
        x.set(0, 0, 9);
        x.set(0, 1, 9);
        x.put(0, 40);
        x.pass(3);
        x.set(0, 0, 1);
        x.set(0, 1, 1);
        x.put(0, 0);
        DUE.is("charge stays", x.pair(0, 8), 1440);
        DUE.is("nothing more is given", x.book(0, 1), 12 * 1440);
        DUE.is("turnOn without a change of the charge", x.turnOn(0, 30), 1200);
        DUE.is("given by less charge", x.book(0, 1), 12 * 1440 - 60 * 240);
    }

    /** "with the battery off it is q * q / c, rounded down" */
    private static void storedIsRoundedDown() {
        PlateSlabs x = new PlateSlabs();
        Made.charge(x, 0, 1, 2, 10, 1);
        DUE.is("2500 / 50", x.book(0, 0), 50);
        x.put(0, 1);
        DUE.is("2500 / 41 = 60 and 40 of 41", x.book(0, 0), 60);
        x.put(0, 11);
        DUE.is("2500 / 51 = 49 and 1 of 51", x.book(0, 0), 49);
        x.put(0, 0);
        DUE.is("2500 / 40 = 62 and a half", x.book(0, 0), 62);
        x.turnOn(0, 1);
        DUE.is("on: 1 * 40", x.book(0, 0), 40);
        x.turnOn(0, 0);
        DUE.is("on: 0 * 0", x.book(0, 0), 0);
        x.turnOff(0);
        DUE.is("off: 0 * 0 / 40", x.book(0, 0), 0);
        PlateSlabs y = Made.nearlyFull();
        y.set(0, 0, 1);
        y.put(0, 0);
        DUE.is("196126 * 196126 / 40", y.book(0, 0), 961635196L);
    }

    /** "NONE if it is on with this voltage already": not if it is off, nor if it is on with another. */
    private static void turnOnTwice() {
        PlateSlabs x = new PlateSlabs();
        DUE.is("turnOn of a new one", x.turnOn(0, 0), 0);
        DUE.is("again", x.turnOn(0, 0), PlateSlabs.NONE);
        DUE.is("another", x.turnOn(0, 1), 40);
        DUE.is("off", x.turnOff(0), 40);
        DUE.is("the same when off", x.turnOn(0, 1), 40);
        DUE.is("again", x.turnOn(0, 1), PlateSlabs.NONE);
        DUE.is("another pair", x.turnOn(1, 1), 40);
        DUE.is("batteries that are on", x.count(1), 2);
    }

    /** "Returns the charge; UNKNOWN; NONE if it is off." */
    private static void turnOffTwice() {
        PlateSlabs x = new PlateSlabs();
        for (int pair = 0; pair < 4; pair++) {
            DUE.is("off at first", x.turnOff(pair), PlateSlabs.NONE);
            x.turnOn(pair, 0);
            DUE.is("a charge of 0 is no NONE", x.turnOff(pair), 0);
            DUE.is("again", x.turnOff(pair), PlateSlabs.NONE);
            x.turnOn(pair, 30);
            DUE.is("a charge of 1200", x.turnOff(pair), 1200);
        }
    }

    /** Pair 0 has a charge of 9 by leaks, pair 1 gets 1 of it. */
    private static PlateSlabs oneOnPair1() {
        PlateSlabs x = new PlateSlabs();
        Made.smallCharge(x, 0, 40);
        x.set(0, 5, 100);
        x.set(0, 4, 9999);
        x.pass(99);
        DUE.is("a charge from which nothing leaks", x.pair(0, 8), 9);
        x.set(0, 0, 9);
        DUE.is("couple(0, 1): 8.1", x.couple(0, 1), 8);
        DUE.is("the rest is 1", x.pair(1, 8), 1);
        return x;
    }

    private static void theSmallestCharges() {
        PlateSlabs x = oneOnPair1();
        DUE.is("couple(2, 1): half of 1 is 0, as it is", x.couple(2, 1), PlateSlabs.NONE);
        DUE.is("couple(1, 2): half of 1 is 0", x.couple(1, 2), 0);
        DUE.is("pair 2 has it", x.pair(2, 8), 1);
        DUE.is("pair 1 has none", x.pair(1, 8), 0);
        DUE.is("couplings", x.count(7), 2);
        DUE.is("no sparks", x.book(1, 3) + x.book(2, 3), x.book(1, 3));
        x.put(2, 1);
        DUE.is("couple(2, 1): 41 of 81 is 0", x.couple(2, 1), 0);
        DUE.is("pair 1 has it", x.pair(1, 8), 1);
        DUE.is("all charge is still there", x.count(3), 9);
    }

    /** "the first one gets all charge times its capacity, divided by both capacities together, rounded down" */
    private static void theFirstIsRoundedDown() {
        PlateSlabs x = new PlateSlabs();
        Made.smallCharge(x, 0, 41);
        DUE.is("41 by halves: 20", x.couple(0, 1), 20);
        DUE.is("the other gets the rest", x.pair(1, 8), 21);
        DUE.is("turned round", x.couple(1, 0), 20);
        DUE.is("the other gets the rest", x.pair(0, 8), 21);
        PlateSlabs y = new PlateSlabs();
        Made.smallCharge(y, 3, 80);
        y.set(2, 0, 2);
        DUE.is("80 by 40 of 120: 26 and two thirds", y.couple(3, 2), 26);
        DUE.is("the rest", y.pair(2, 8), 54);
        DUE.is("80 by 80 of 120: 53 and a third", y.couple(2, 3), 53);
        DUE.is("the rest", y.pair(3, 8), 27);
        Made.smallCharge(y, 0, 80);
        y.put(1, 40);
        y.set(1, 1, 3);
        DUE.is("80 by 120 of 160: 60", y.couple(1, 0), 60);
        DUE.is("the rest", y.pair(0, 8), 20);
    }

    /** "NONE if the charges stay as they are" */
    private static void chargesThatStay() {
        PlateSlabs x = new PlateSlabs();
        DUE.is("no charges", x.couple(3, 0), PlateSlabs.NONE);
        Made.charge(x, 0, 1, 2, 0, 7);
        Made.charge(x, 1, 5, 3, 20, 7);
        DUE.is("as much for each capacity", x.couple(0, 1), PlateSlabs.NONE);
        DUE.is("turned round", x.couple(1, 0), PlateSlabs.NONE);
        DUE.is("no coupling", x.count(7), 0);
        DUE.is("no sparks", x.book(0, 3), 0);
        Made.smallCharge(x, 2, 41);
        x.set(2, 5, 100);
        x.set(2, 4, 9999);
        x.pass(1);
        DUE.is("charge 37", x.pair(2, 8), 37);
        DUE.is("couple(2, 3): 18", x.couple(2, 3), 18);
        DUE.is("couple(2, 3) again", x.couple(2, 3), PlateSlabs.NONE);
        DUE.is("the other has one more", x.pair(3, 8), 19);
        DUE.is("couple(3, 2) changes them", x.couple(3, 2), 18);
        DUE.is("couplings", x.count(7), 2);
    }

    /** "half of each loss, rounded down (also below 0), for the first pair, the rest for the other one" */
    private static void halvesOfSparks() {
        PlateSlabs x = new PlateSlabs();
        Made.smallCharge(x, 0, 41);
        DUE.is("stored", x.book(0, 0), 42);
        x.couple(0, 1);
        DUE.is("stored then", x.book(0, 0) + x.book(1, 0), 10 + 11);
        DUE.is("21: 10 for the first", x.book(0, 3), 10);
        DUE.is("21: 11 for the other", x.book(1, 3), 11);
        DUE.is("a loss of 0", x.couple(1, 0), 20);
        DUE.is("nothing for the first", x.book(1, 3), 11);
        DUE.is("nothing for the other", x.book(0, 3), 10);
        PlateSlabs y = new PlateSlabs();
        Made.smallCharge(y, 1, 40);
        y.set(0, 0, 2);
        DUE.is("26 and 14", y.couple(0, 1), 26);
        DUE.is("40 less 8 and 4 is 28: 14", y.book(0, 3), 14);
        DUE.is("40 less 8 and 4 is 28: 14", y.book(1, 3), 14);
        DUE.is("13 and 27", y.couple(1, 0), 13);
        DUE.is("12 less 4 and 9 is -1: -1 for the first", y.book(1, 3), 13);
        DUE.is("12 less 4 and 9 is -1: 0 for the other", y.book(0, 3), 14);
        DUE.is("the book adds up", y.book(1, 4), 80 - 4 - 13);
        sparksBelowZero();
    }

    private static void sparksBelowZero() {
        PlateSlabs x = new PlateSlabs();
        Made.smallCharge(x, 0, 45);
        Made.smallCharge(x, 1, 62);
        x.put(1, 10);
        DUE.is("stored by 0", x.book(0, 0), 50);
        DUE.is("stored by 1", x.book(1, 0), 76);
        DUE.is("47 and 60", x.couple(0, 1), 47);
        DUE.is("stored by 0 then", x.book(0, 0), 55);
        DUE.is("stored by 1 then", x.book(1, 0), 72);
        DUE.is("-1: all of it for the first", x.book(0, 3), -1);
        DUE.is("-1: 0 for the other", x.book(1, 3), 0);
        DUE.is("what is else of 0", x.book(0, 4), 2 * 45 - 55 + 1);
        DUE.is("what is else of 1", x.book(1, 4), 2 * 62 - 72);
    }

    /** "FULL if one of them would have a charge above 200000" */
    private static void mostChargeOfTheFirst() {
        PlateSlabs x = Made.nearlyFull();
        Made.refill(x, 1, 7, 34, 26);
        DUE.is("just 200000", x.couple(0, 1), 200000);
        PlateSlabs y = Made.nearlyFull();
        Made.refill(y, 1, 6, 39, 27);
        DUE.is("just 200001", y.couple(0, 1), PlateSlabs.FULL);
        DUE.is("charge of the first", y.pair(0, 8), 196126);
        DUE.is("charge of the other", y.pair(1, 8), 6345);
        DUE.is("couplings", y.count(7), 2);
    }

    /** The other one gets what the rounding down leaves. */
    private static void mostChargeOfTheOther() {
        PlateSlabs x = Made.nearlyFull(26, 7);
        Made.refill(x, 5, 6, 3, 11);
        DUE.is("202469 together", x.pair(0, 8) + x.pair(1, 8), 202469);
        DUE.is("2469 for the first", x.couple(1, 0), 2469);
        DUE.is("just 200000 for the other", x.pair(0, 8), 200000);
        DUE.is("couplings", x.count(7), 3);
        PlateSlabs y = Made.nearlyFull();
        Made.refill(y, 1, 7, 34, 26);
        DUE.is("202470 together", y.pair(0, 8) + y.pair(1, 8), 202470);
        DUE.is("just 200001 for the other", y.couple(1, 0), PlateSlabs.FULL);
        DUE.is("charge of the first", y.pair(1, 8), 6344);
        DUE.is("charge of the other", y.pair(0, 8), 196126);
        DUE.is("couplings", y.count(7), 2);
    }

    /** Only a charge of one of them is looked at, not that of both. */
    private static void togetherMoreThanTheMost() {
        PlateSlabs x = Made.nearlyFull();
        Made.charge(x, 2, 9, 9, 40, 30);
        DUE.is("293326 by halves", x.couple(0, 2), 146663);
        DUE.is("the rest", x.pair(2, 8), 146663);
        Made.charge(x, 1, 9, 9, 40, 30);
        DUE.is("243863 by halves", x.couple(1, 2), 121931);
        DUE.is("charges of all pairs", x.count(3), 146663 + 121931 + 121932);
    }
}
