/** The edges of the promises 1, 15, 16 and 24: what is told of pairs, of books, and in all. */
public final class ToldEdgesTest {
    private static final Due DUE = new Due("ToldEdgesTest");

    public static void main(String[] args) {
        aNewObject();
        objectsAreApart();
        eachNumberOfAPair();
        drawnBackWithoutItsSign();
        eachNumberOfABook();
        theBookAddsUp();
        elseBelowZero();
        greatGifts();
        greatLeaks();
        greatSparks();
        countOfTheTick();
        countOfBatteries();
        countOfMoves();
        countOfCharges();
        countOfCapacitiesAndDepths();
        countOfSlabsThatAreIn();
        countOfCouplings();
        countOfSteps();
        countOfStatesAndSigns();
        DUE.end();
    }

    /** "Creates pairs without charge, at the tick 0." */
    private static void aNewObject() {
        PlateSlabs x = new PlateSlabs();
        long[] due = new long[4 * 13 + 3];
        for (int pair = 0; pair < 4; pair++) {
            due[13 * pair] = 1;
            due[13 * pair + 1] = 2;
            due[13 * pair + 8] = 10;
        }
        DUE.same("a new one", Sight.ofState(x), due);
        DUE.is("no stop", x.stopped(0), PlateSlabs.NONE);
        DUE.is("no text", x.clearText(), 0);
        DUE.is("no history", x.undo(), PlateSlabs.NONE);
        DUE.is("no snapshot", x.restore(), PlateSlabs.NONE);
        DUE.is("no pull", x.strongest(), PlateSlabs.NONE);
    }

    private static void objectsAreApart() {
        PlateSlabs x = new PlateSlabs();
        PlateSlabs y = Made.rich();
        DUE.is("keep()", y.keep(), 9);
        DUE.is("batteries of the other", x.count(1), 0);
        DUE.is("states of the other", x.count(9), 0);
        DUE.is("text of the other", x.count(10), 0);
        DUE.is("stop of the other", x.stopped(0), PlateSlabs.NONE);
        DUE.is("snapshot of the other", x.restore(), PlateSlabs.NONE);
        DUE.is("tick of the other", x.count(0), 0);
        DUE.is("settings of the other", x.pair(0, 1), 2);
    }

    private static void told(PlateSlabs x, int pair, int... due) {
        for (int what = 0; what < due.length; what++) {
            DUE.is("pair(" + pair + ", " + what + ")", x.pair(pair, what), due[what]);
        }
    }

    /** Each of the 13 numbers is another one, for each pair. */
    private static void eachNumberOfAPair() {
        for (int pair = 0; pair < 4; pair++) {
            PlateSlabs x = new PlateSlabs();
            int[] settings = {2, 7, 15, 31, 63, 18};
            for (int which = 0; which < 6; which++) {
                x.set(pair, which, settings[which]);
            }
            x.put(pair, 40);
            told(x, pair, 2, 7, 15, 31, 63, 18, 40, 560, 0, 10, 0, 0, 135);
            x.turnOn(pair, 9);
            told(x, pair, 2, 7, 15, 31, 63, 18, 40, 560, 5040, 9, 1, 972, 135);
            x.put(pair, 0);
            told(x, pair, 2, 7, 15, 31, 63, 18, 0, 80, 720, 9, 1, 972, 465);
            x.turnOff(pair);
            x.put(pair, 31);
            told(x, pair, 2, 7, 15, 31, 63, 18, 31, 452, 720, 9, 0, 30, 0);
            told(x, (pair + 1) % 4, 1, 2, 0, 0, 0, 0, 0, 40, 0, 10, 0, 0, 0);
            told(x, (pair + 3) % 4, 1, 2, 0, 0, 0, 0, 0, 40, 0, 10, 0, 0, 0);
            DUE.is("pair(.., 13)", x.pair(pair, 13), PlateSlabs.BAD_VALUE);
            DUE.is("pair(.., -1)", x.pair(pair, -1), PlateSlabs.BAD_VALUE);
        }
    }

    /** "12 for what the spring draws back, without its sign" */
    private static void drawnBackWithoutItsSign() {
        PlateSlabs x = new PlateSlabs();
        Made.springs(x, 0, 999, 40, 0);
        DUE.is("pushed in as much as can be", x.pair(0, 12), 39960);
        x.put(0, 40);
        DUE.is("at rest", x.pair(0, 12), 0);
        x.set(0, 3, 0);
        DUE.is("drawn back as much as can be", x.pair(0, 12), 39960);
        x.set(0, 3, 39);
        DUE.is("drawn back by one", x.pair(0, 12), 999);
        x.put(0, 38);
        DUE.is("pushed in by one", x.pair(0, 12), 999);
    }

    private static void books(PlateSlabs x, int pair, long... due) {
        for (int what = 0; what < due.length; what++) {
            DUE.is("book(" + pair + ", " + what + ")", x.book(pair, what), due[what]);
        }
    }

    private static void eachNumberOfABook() {
        for (int pair = 0; pair < 4; pair++) {
            int other = (pair + 1) % 4;
            PlateSlabs x = new PlateSlabs();
            books(x, pair, 0, 0, 0, 0, 0);
            x.turnOn(pair, 10);
            books(x, pair, 4000, 8000, 0, 0, 4000);
            x.turnOff(pair);
            x.set(pair, 4, 9999);
            x.set(pair, 5, 10);
            x.pass(1);
            books(x, pair, 396 * 396 / 40, 8000, 80, 0, 8000 - 3920 - 80);
            x.set(other, 0, 2);
            DUE.is("couple", x.couple(pair, other), 132);
            books(x, pair, 435, 8000, 80, 1307, 8000 - 435 - 80 - 1307);
            books(x, other, 871, 0, 0, 1307, -871 - 1307);
            books(x, (pair + 2) % 4, 0, 0, 0, 0, 0);
            books(x, (pair + 3) % 4, 0, 0, 0, 0, 0);
            DUE.is("book(.., 5)", x.book(pair, 5), PlateSlabs.BAD_VALUE);
            DUE.is("book(.., -1)", x.book(pair, -1), PlateSlabs.BAD_VALUE);
        }
    }

    /** "4 for all else: what the battery gave, less the other three" */
    private static void theBookAddsUp() {
        PlateSlabs x = Made.rich();
        Call[] acts = {y -> y.pass(9), y -> y.couple(1, 3), y -> y.couple(3, 1), y -> y.turnOff(0),
            y -> y.couple(0, 3), y -> y.put(0, 2), y -> y.set(0, 1, 9), y -> y.turnOn(0, 3), y -> y.pass(40),
            y -> y.turnOn(0, 1), y -> y.restore(), y -> y.undo()};
        for (int i = 0; i < acts.length; i++) {
            acts[i].on(x);
            for (int pair = 0; pair < 4; pair++) {
                long others = x.book(pair, 0) + x.book(pair, 2) + x.book(pair, 3);
                DUE.is("book(" + pair + ", 4) behind act " + i, x.book(pair, 4), x.book(pair, 1) - others);
            }
        }
    }

    /** "(1 and 4 can be less than 0)" */
    private static void elseBelowZero() {
        PlateSlabs x = new PlateSlabs();
        Made.charge(x, 0, 1, 2, 40, 10);
        x.put(0, 0);
        books(x, 0, 16000, 16000, 0, 0, 0);
        x.turnOn(0, 1);
        books(x, 0, 40, 16000 - 2 * 760, 0, 0, 16000 - 1520 - 40);
        PlateSlabs y = new PlateSlabs();
        Made.charge(y, 0, 1, 2, 40, 10);
        y.set(0, 1, 1);
        books(y, 0, 16000, 16000, 0, 0, 0);
        y.couple(1, 0);
        DUE.is("pair 1 has half", y.pair(1, 8), 400);
        books(y, 1, 4000, 0, 0, 4000, -8000);
        y.turnOn(1, 9);
        books(y, 1, 3240, -720, 0, 4000, -720 - 3240 - 4000);
    }

    /** "energies, each twice": what a battery gave, and what is else, is more than an int holds. */
    private static void greatGifts() {
        PlateSlabs x = new PlateSlabs();
        x.set(0, 0, 9);
        x.set(0, 1, 9);
        x.put(0, 40);
        Due.write(x, "b0=30;b0=0;b0=30;b0=0;b0=30;b0=0;b0=30;b0=0;b0=30;b0=0");
        for (int i = 1; i <= 100; i++) {
            x.perform();
            DUE.is("given " + 5 * i + " times", x.book(0, 1), 5L * i * 60 * 97200);
            DUE.is("all of it is else", x.book(0, 4), 5L * i * 60 * 97200);
        }
        x.turnOn(0, 30);
        x.turnOff(0);
        x.set(0, 0, 1);
        x.put(0, 0);
        DUE.is("97200 * 97200 / 40", x.book(0, 0), 236196000L);
        DUE.is("else", x.book(0, 4), 501L * 60 * 97200 - 236196000L);
    }

    /** Pair 0 has a charge of 97200, and a capacity of 40 by its stuff: nothing pulls its slab then. */
    private static void greatCharge(PlateSlabs x) {
        Made.charge(x, 0, 9, 9, 40, 30);
        x.set(0, 0, 1);
        x.set(0, 1, 1);
    }

    private static void greatLeaks() {
        PlateSlabs x = new PlateSlabs();
        x.set(0, 5, 100);
        long leaked = 0;
        for (int i = 1; i <= 12; i++) {
            greatCharge(x);
            x.pass(99);
            long charge = 97200;
            for (int tick = 0; tick < 99; tick++) {
                charge -= charge / 10;
            }
            leaked += 236196000L - charge * charge / 40;
            DUE.is("leaked behind " + i, x.book(0, 2), leaked);
            DUE.is("else behind " + i, x.book(0, 4), x.book(0, 1) - x.book(0, 0) - leaked);
        }
        DUE.is("that is more than an int holds", leaked > Integer.MAX_VALUE ? 1 : 0, 1);
    }

    private static void greatSparks() {
        PlateSlabs x = new PlateSlabs();
        long lost = 0;
        for (int i = 1; i <= 22; i++) {
            greatCharge(x);
            Made.charge(x, 1, 9, 9, 40, 0);
            DUE.is("couple", x.couple(0, 1), 97200 * 40 / 3280);
            long charge = 97200 * 40 / 3280;
            long loss = 236196000L - charge * charge / 40 - (97200 - charge) * (97200 - charge) / 3240;
            lost += Math.floorDiv(loss, 2L);
            DUE.is("sparks of the first behind " + i, x.book(0, 3), lost);
            DUE.is("sparks of the other behind " + i, x.book(1, 3), lost + (loss % 2) * i);
            DUE.is("else behind " + i, x.book(1, 4), x.book(1, 1) - x.book(1, 0) - x.book(1, 3));
        }
        DUE.is("that is more than an int holds", lost > Integer.MAX_VALUE ? 1 : 0, 1);
    }

    private static void countOfTheTick() {
        PlateSlabs x = new PlateSlabs();
        DUE.is("tick at first", x.count(0), 0);
        x.pass(1);
        DUE.is("tick 1", x.count(0), 1);
        x.pass(99);
        DUE.is("tick 100", x.count(0), 100);
        x.undo();
        DUE.is("undone", x.count(0), 1);
        DUE.is("the last one", Made.late(99999).count(0), 99999);
    }

    private static void countOfBatteries() {
        PlateSlabs x = new PlateSlabs();
        for (int pair = 0; pair < 4; pair++) {
            DUE.is("on", x.count(1), pair);
            x.turnOn(pair, 0);
        }
        DUE.is("all are on", x.count(1), 4);
        x.turnOn(2, 30);
        DUE.is("still all", x.count(1), 4);
        for (int pair = 0; pair < 4; pair++) {
            x.turnOff(pair);
            DUE.is("off", x.count(1), 3 - pair);
        }
    }

    /** "2 for slabs that would move, as reason() tells it": in or out, none of the reasons 2 to 4 */
    private static void countOfMoves() {
        PlateSlabs x = new PlateSlabs();
        DUE.is("none", x.count(2), 0);
        x.turnOn(0, 1);
        DUE.is("one in", x.count(2), 1);
        x.put(1, 5);
        x.set(1, 2, 1);
        DUE.is("one out", x.count(2), 2);
        x.turnOn(2, 5);
        x.turnOn(3, 5);
        DUE.is("all", x.count(2), 4);
        x.set(3, 4, 25);
        DUE.is("friction", x.count(2), 3);
        x.put(2, 40);
        DUE.is("at the end", x.count(2), 2);
        x.put(1, 0);
        DUE.is("no force", x.count(2), 1);
        x.turnOff(0);
        DUE.is("off, but charged", x.count(2), 1);
    }

    private static void countOfCharges() {
        PlateSlabs x = new PlateSlabs();
        DUE.is("none", x.count(3), 0);
        for (int pair = 0; pair < 4; pair++) {
            Made.charge(x, pair, 9, 9, 40, 30);
            DUE.is("charges", x.count(3), 97200 * (pair + 1));
        }
        x.set(1, 0, 1);
        x.put(1, 0);
        x.couple(0, 1);
        DUE.is("coupling keeps all charge", x.count(3), 4 * 97200);
        x.turnOn(2, 0);
        DUE.is("a charge is taken", x.count(3), 3 * 97200);
    }

    private static void countOfCapacitiesAndDepths() {
        PlateSlabs x = new PlateSlabs();
        DUE.is("the least but for stuff", x.count(4), 160);
        DUE.is("all out", x.count(5), 0);
        for (int pair = 0; pair < 4; pair++) {
            x.put(pair, pair + 1);
        }
        DUE.is("capacities", x.count(4), 170);
        DUE.is("depths", x.count(5), 10);
        for (int pair = 0; pair < 4; pair++) {
            x.set(pair, 0, 9);
            x.set(pair, 1, 9);
            x.put(pair, 40);
        }
        DUE.is("the greatest capacities", x.count(4), 4 * 3240);
        DUE.is("all in", x.count(5), 160);
    }

    private static void countOfSlabsThatAreIn() {
        PlateSlabs x = new PlateSlabs();
        DUE.is("none", x.count(6), 0);
        for (int pair = 0; pair < 4; pair++) {
            x.put(pair, 39);
            DUE.is("39 is not all the way", x.count(6), pair);
            x.put(pair, 40);
            DUE.is("40 is", x.count(6), pair + 1);
        }
    }

    private static void countOfCouplings() {
        PlateSlabs x = new PlateSlabs();
        x.couple(0, 1);
        x.couple(0, 0);
        DUE.is("none that is refused", x.count(7), 0);
        Made.charge(x, 0, 1, 2, 0, 10);
        x.couple(0, 1);
        DUE.is("one", x.count(7), 1);
        x.couple(0, 1);
        DUE.is("none by which charges stay", x.count(7), 1);
        Due.performed(x, "c02;c02;c13");
        DUE.is("two more of a trial", x.count(7), 3);
        Due.performed(x, "c01;c03;c33");
        DUE.is("none of a trial that is stopped", x.count(7), 3);
        x.undo();
        DUE.is("undone", x.count(7), 1);
    }

    private static void countOfSteps() {
        PlateSlabs x = new PlateSlabs();
        x.pass(50);
        DUE.is("none", x.count(8), 0);
        x.turnOn(0, 1);
        x.turnOn(1, 1);
        x.pass(40);
        DUE.is("two times 40", x.count(8), 80);
        x.pass(40);
        DUE.is("no more at the end", x.count(8), 80);
        x.depthIn(0, 400);
        x.restsIn(0);
        x.set(0, 2, 999);
        x.pass(1);
        DUE.is("a step out is one, too", x.count(8), 81);
        x.put(1, 3);
        DUE.is("by hand is none", x.count(8), 81);
    }

    private static void countOfStatesAndSigns() {
        PlateSlabs x = new PlateSlabs();
        for (int acts = 0; acts <= 6; acts++) {
            DUE.is("states", x.count(9), Math.min(acts, 4));
            x.pass(1);
        }
        for (int length = 0; length <= 62; length++) {
            DUE.is("signs", x.count(10), Math.min(length, 60));
            x.type((char) length);
        }
        DUE.is("count(11)", x.count(11), PlateSlabs.BAD_VALUE);
        DUE.is("count(-1)", x.count(-1), PlateSlabs.BAD_VALUE);
    }
}
