/**
 * ERRORS: "A call that returns an error or NONE changes nothing (but for the latest stop of perform())."
 * Each refused call is made on one of two objects that are alike; behind it they must still be alike in
 * all that is told, in every state of the history, in the snapshot and in the text.
 */
public final class RefusedTest {
    private static final Due DUE = new Due("RefusedTest");
    private static final int LATE_TICK = 99990;

    /** Makes an object, always the same. */
    interface Start {
        PlateSlabs make();
    }

    public static void main(String[] args) {
        actsOnPairs();
        couplings();
        passes();
        texts();
        trialsWithFaults();
        trialsThatAreStopped();
        historyThatIsEmpty();
        questionsThatAreRefused();
        questionsChangeNothing();
        DUE.end();
    }

    private static void refused(String name, Start start, Call call, long due) {
        PlateSlabs x = start.make();
        long[] before = Sight.ofAll(x);
        long number = x.stopped(0);
        long error = x.stopped(1);
        DUE.is(name, call.on(x), due);
        DUE.same(name + ", what is told", Sight.ofAll(x), before);
        DUE.is(name + ", stopped(0)", x.stopped(0), number);
        DUE.is(name + ", stopped(1)", x.stopped(1), error);
        sameHistory(name, start, call);
        sameSnapshotAndText(name, start, call);
    }

    private static void sameHistory(String name, Start start, Call call) {
        PlateSlabs x = start.make();
        PlateSlabs like = start.make();
        call.on(x);
        for (int i = 0; i < 5; i++) {
            DUE.is(name + ", undo() " + i, x.undo(), like.undo());
            DUE.same(name + ", undo() " + i, Sight.ofState(x), Sight.ofState(like));
        }
    }

    private static void sameSnapshotAndText(String name, Start start, Call call) {
        PlateSlabs x = start.make();
        PlateSlabs like = start.make();
        call.on(x);
        DUE.is(name + ", perform()", x.perform(), like.perform());
        DUE.same(name + ", perform()", Sight.ofState(x), Sight.ofState(like));
        DUE.is(name + ", restore()", x.restore(), like.restore());
        DUE.same(name + ", restore()", Sight.ofState(x), Sight.ofState(like));
        DUE.is(name + ", clearText()", x.clearText(), like.clearText());
    }

    private static void ofRich(String name, Call call, long due) {
        refused(name, Made::rich, call, due);
    }

    private static void actsOnPairs() {
        ofRich("set of pair 4", x -> x.set(4, 0, 9), PlateSlabs.UNKNOWN);
        ofRich("set of pair -1", x -> x.set(-1, 0, 9), PlateSlabs.UNKNOWN);
        ofRich("set of setting 6", x -> x.set(0, 6, 9), PlateSlabs.UNKNOWN);
        ofRich("set of setting -1", x -> x.set(0, -1, 9), PlateSlabs.UNKNOWN);
        int[] tooLittle = {0, 0, -1, -1, -1, -1};
        int[] tooMuch = {10, 10, 1000, 41, 10000, 101};
        for (int which = 0; which < 6; which++) {
            int setting = which;
            for (int pair = 0; pair < 4; pair++) {
                int one = pair;
                ofRich("set too little", x -> x.set(one, setting, tooLittle[setting]), PlateSlabs.BAD_VALUE);
                ofRich("set too much", x -> x.set(one, setting, tooMuch[setting]), PlateSlabs.BAD_VALUE);
                ofRich("set as it is", x -> x.set(one, setting, x.pair(one, setting)), PlateSlabs.NONE);
            }
        }
        ofRich("turnOn of pair 4", x -> x.turnOn(4, 5), PlateSlabs.UNKNOWN);
        ofRich("turnOn of pair -1", x -> x.turnOn(-1, 5), PlateSlabs.UNKNOWN);
        for (int pair = 0; pair < 4; pair++) {
            int one = pair;
            ofRich("turnOn with 31", x -> x.turnOn(one, 31), PlateSlabs.BAD_VALUE);
            ofRich("turnOn with -1", x -> x.turnOn(one, -1), PlateSlabs.BAD_VALUE);
            ofRich("put to 41", x -> x.put(one, 41), PlateSlabs.BAD_VALUE);
            ofRich("put to -1", x -> x.put(one, -1), PlateSlabs.BAD_VALUE);
            ofRich("put where it is", x -> x.put(one, x.pair(one, 6)), PlateSlabs.NONE);
        }
        ofRich("turnOn as it is", x -> x.turnOn(0, 9), PlateSlabs.NONE);
        ofRich("turnOff of pair 4", x -> x.turnOff(4), PlateSlabs.UNKNOWN);
        ofRich("turnOff of pair -1", x -> x.turnOff(-1), PlateSlabs.UNKNOWN);
        ofRich("turnOff when it is off", x -> x.turnOff(1), PlateSlabs.NONE);
        ofRich("put of pair 4", x -> x.put(4, 5), PlateSlabs.UNKNOWN);
        ofRich("put of pair -1", x -> x.put(-1, 5), PlateSlabs.UNKNOWN);
    }

    private static void couplings() {
        ofRich("couple(4, 1)", x -> x.couple(4, 1), PlateSlabs.UNKNOWN);
        ofRich("couple(1, 4)", x -> x.couple(1, 4), PlateSlabs.UNKNOWN);
        ofRich("couple(-1, 1)", x -> x.couple(-1, 1), PlateSlabs.UNKNOWN);
        ofRich("couple(1, -1)", x -> x.couple(1, -1), PlateSlabs.UNKNOWN);
        ofRich("couple(3, 3)", x -> x.couple(3, 3), PlateSlabs.BAD_VALUE);
        ofRich("couple of one that is on", x -> x.couple(0, 1), PlateSlabs.NOT_POSSIBLE);
        ofRich("couple to one that is on", x -> x.couple(1, 0), PlateSlabs.NOT_POSSIBLE);
        Start full = () -> {
            PlateSlabs x = Made.nearlyFull();
            Made.refill(x, 1, 6, 39, 27);
            x.keep();
            return x;
        };
        refused("too much charge for the first", full, x -> x.couple(0, 1), PlateSlabs.FULL);
        refused("too much charge for the other", full, x -> x.couple(1, 0), PlateSlabs.FULL);
        Start shared = () -> {
            PlateSlabs x = Made.nearlyFull();
            x.keep();
            x.put(2, 1);
            return x;
        };
        refused("charges stay", shared, x -> x.couple(0, 1), PlateSlabs.NONE);
        refused("charges of 0 stay", PlateSlabs::new, x -> x.couple(0, 1), PlateSlabs.NONE);
    }

    private static void passes() {
        ofRich("pass(0)", x -> x.pass(0), PlateSlabs.BAD_VALUE);
        ofRich("pass(-1)", x -> x.pass(-1), PlateSlabs.BAD_VALUE);
        ofRich("pass(100)", x -> x.pass(100), PlateSlabs.BAD_VALUE);
        late("pass(10) at 99990", x -> x.pass(10), PlateSlabs.FULL);
        late("pass(99) at 99990", x -> x.pass(99), PlateSlabs.FULL);
    }

    /** A slab of it would move in each tick, and a charge would leak: not one of them is to pass. */
    private static void late(String name, Call call, long due) {
        PlateSlabs x = Made.late(LATE_TICK);
        x.turnOn(0, 30);
        Made.charge(x, 1, 1, 2, 0, 30);
        x.set(1, 5, 100);
        long[] before = Sight.ofState(x);
        DUE.is(name, call.on(x), due);
        DUE.same(name, Sight.ofState(x), before);
        DUE.is(name + ", states", x.count(9), 4);
        DUE.is(name + ", undo()", x.undo(), 3);
        DUE.is(name + ", leak is taken back", x.pair(1, 5), 0);
    }

    private static void texts() {
        Start longText = () -> {
            PlateSlabs x = Made.rich();
            Due.write(x, "o0;o1;o2;o3;b0=30;b1=30;b2=30;d0=10;d1=20;d2=30;d3=40;.9;.12");
            return x;
        };
        refused("type behind 60", longText, x -> x.type('b'), PlateSlabs.FULL);
        DUE.is("that text is a trial", longText.make().perform(), 13);
        ofRich("stopped(2)", x -> x.stopped(2), PlateSlabs.BAD_VALUE);
        ofRich("stopped(-1)", x -> x.stopped(-1), PlateSlabs.BAD_VALUE);
        refused("nothing was stopped", PlateSlabs::new, x -> x.stopped(0), PlateSlabs.NONE);
        refused("no error was told", PlateSlabs::new, x -> x.stopped(1), PlateSlabs.NONE);
    }

    /** A fault is an error, and no stop: the latest stop stays, too. */
    private static void trialsWithFaults() {
        String[] faulty = {"", "x", "b0=1;", "b0=1;d1=30;.5;o0;c", "o0;d3=40;.99;c13;b1=31", ".1 ", "c00;x"};
        int[] fault = {0, 0, 5, 18, 21, 2, 4};
        for (int i = 0; i < faulty.length; i++) {
            String text = faulty[i];
            Start start = () -> {
                PlateSlabs x = Made.rich();
                Due.write(x, text);
                return x;
            };
            refused("perform() of \"" + text + "\"", start, x -> x.perform(), -100 - fault[i]);
        }
    }

    private static void stopped(String text, Start start, int number, int error) {
        Start written = () -> {
            PlateSlabs x = start.make();
            Due.write(x, text);
            return x;
        };
        PlateSlabs x = written.make();
        long[] before = Sight.ofAll(x);
        DUE.is("perform() of " + text, x.perform(), PlateSlabs.NOT_POSSIBLE);
        DUE.same(text + ", what is told", Sight.ofAll(x), before);
        DUE.is(text + ", stopped(0)", x.stopped(0), number);
        DUE.is(text + ", stopped(1)", x.stopped(1), error);
        sameHistory(text, written, y -> y.perform());
        sameSnapshotAndText(text, written, y -> y.perform());
    }

    private static void trialsThatAreStopped() {
        stopped("c11", Made::rich, 0, PlateSlabs.BAD_VALUE);
        stopped("c01", Made::rich, 0, PlateSlabs.NOT_POSSIBLE);
        stopped("b1=30;o0;d0=1;.99;c03;o1;c31;b3=3;c13", Made::rich, 8, PlateSlabs.NOT_POSSIBLE);
        stopped("o0;d0=40;d1=40;d2=40;d3=40;.99;b3=30;b1=1;b2=2;.1;o3;c33", Made::rich, 11, PlateSlabs.BAD_VALUE);
        stopped("c01;b1=1;o1;c01;.1;b2=9;c10;c02", () -> {
            PlateSlabs x = Made.nearlyFull();
            x.keep();
            return x;
        }, 7, PlateSlabs.NOT_POSSIBLE);
        stopped(".2;d1=39;b1=27;o1;d2=2;d1=0;c01", () -> {
            PlateSlabs x = Made.nearlyFull();
            x.set(1, 1, 6);
            x.keep();
            x.set(3, 4, 9);
            return x;
        }, 6, PlateSlabs.FULL);
        stoppedByTheLastTick();
    }

    private static void stoppedByTheLastTick() {
        PlateSlabs x = Made.late(LATE_TICK);
        Due.write(x, "b0=9;d1=7;.4;o0;.5;d1=8;.1;b2=2");
        long[] before = Sight.ofState(x);
        DUE.is("perform() up to 100000", x.perform(), PlateSlabs.NOT_POSSIBLE);
        DUE.same("perform() up to 100000", Sight.ofState(x), before);
        DUE.is("stopped(0)", x.stopped(0), 6);
        DUE.is("stopped(1)", x.stopped(1), PlateSlabs.FULL);
        DUE.is("the text stays", x.count(10), 31);
    }

    private static void historyThatIsEmpty() {
        refused("undo() of nothing", PlateSlabs::new, x -> x.undo(), PlateSlabs.NONE);
        refused("restore() of nothing", PlateSlabs::new, x -> x.restore(), PlateSlabs.NONE);
        Start used = () -> {
            PlateSlabs x = new PlateSlabs();
            x.turnOn(1, 4);
            x.pass(3);
            Due.write(x, "d0=9");
            return x;
        };
        refused("restore() without a snapshot", used, x -> x.restore(), PlateSlabs.NONE);
        Start undone = () -> {
            PlateSlabs x = Made.rich();
            for (int i = 0; i < 4; i++) {
                x.undo();
            }
            return x;
        };
        refused("undo() of an empty history", undone, x -> x.undo(), PlateSlabs.NONE);
    }

    private static void questionsThatAreRefused() {
        for (int unknown : new int[] {-1, 4}) {
            ofRich("pair", x -> x.pair(unknown, 0), PlateSlabs.UNKNOWN);
            ofRich("book", x -> x.book(unknown, 0), PlateSlabs.UNKNOWN);
            ofRich("reason", x -> x.reason(unknown), PlateSlabs.UNKNOWN);
            ofRich("force", x -> x.force(unknown, 0), PlateSlabs.UNKNOWN);
            ofRich("restsIn", x -> x.restsIn(unknown), PlateSlabs.UNKNOWN);
            ofRich("depthIn", x -> x.depthIn(unknown, 1), PlateSlabs.UNKNOWN);
            ofRich("leastVoltage", x -> x.leastVoltage(unknown), PlateSlabs.UNKNOWN);
            ofRich("drawingVoltage", x -> x.drawingVoltage(unknown), PlateSlabs.UNKNOWN);
        }
        for (int below : new int[] {-1, Integer.MIN_VALUE}) {
            ofRich("pair", x -> x.pair(0, below), PlateSlabs.BAD_VALUE);
            ofRich("book", x -> x.book(0, below), PlateSlabs.BAD_VALUE);
            ofRich("force", x -> x.force(0, below), PlateSlabs.BAD_VALUE);
            ofRich("depthIn", x -> x.depthIn(0, below), PlateSlabs.BAD_VALUE);
            ofRich("count", x -> x.count(below), PlateSlabs.BAD_VALUE);
        }
        ofRich("pair(0, 13)", x -> x.pair(0, 13), PlateSlabs.BAD_VALUE);
        ofRich("book(0, 5)", x -> x.book(0, 5), PlateSlabs.BAD_VALUE);
        ofRich("force(0, 41)", x -> x.force(0, 41), PlateSlabs.BAD_VALUE);
        ofRich("depthIn(0, 0)", x -> x.depthIn(0, 0), PlateSlabs.BAD_VALUE);
        ofRich("depthIn(0, 401)", x -> x.depthIn(0, 401), PlateSlabs.BAD_VALUE);
        ofRich("count(11)", x -> x.count(11), PlateSlabs.BAD_VALUE);
    }

    /** What is told of later ticks and of other voltages is tried without letting them be. */
    private static void questionsChangeNothing() {
        for (int pair = 0; pair < 4; pair++) {
            int one = pair;
            Call[] questions = {x -> x.reason(one), x -> x.force(one, 40), x -> x.restsIn(one),
                x -> x.depthIn(one, 400), x -> x.leastVoltage(one), x -> x.drawingVoltage(one), x -> x.strongest(),
                x -> x.pair(one, 11), x -> x.book(one, 4), x -> x.count(2)};
            for (int i = 0; i < questions.length; i++) {
                ofRich("question " + i + " of pair " + one, questions[i], questions[i].on(Made.rich()));
            }
        }
    }
}
