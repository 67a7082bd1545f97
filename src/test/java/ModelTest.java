/** Long runs of mixed calls: the class and the plain model must answer alike, and never throw. */
public final class ModelTest {
    private static final Due DUE = new Due("ModelTest");
    private static final int RUNS = 2500;
    // An object is used for at most 512 calls: the mixed ones, the last of which may be those of a trial,
    // and those of tellAll().
    private static final int CALLS = 512;
    private static final int CALLS_OF_A_TRIAL = 70;
    private static final int CALLS_OF_ALL = 6 * 15 * 2 + 15;
    private static final int[] LEAST = {1, 1, 0, 0, 0, 0};
    private static final int[] GREATEST = {9, 9, 999, 40, 9999, 100};
    private static final int[] USUAL = {9, 9, 30, 40, 60, 30};
    private static final int[] WILD = {-1, 4, 100, 401, -100, Integer.MIN_VALUE, Integer.MAX_VALUE};

    private long seed;
    private PlateSlabs x;
    private Model model;
    private int run;
    private int calls;

    public static void main(String[] args) {
        ModelTest test = new ModelTest();
        for (int run = 0; run < RUNS; run++) {
            test.oneRun(run);
        }
        DUE.end();
    }

    /** A row of numbers that is the same in every run of the test. */
    private int next(int bound) {
        seed = seed * 6364136223846793005L + 1442695040888963407L;
        return (int) ((seed >>> 33) % bound);
    }

    private int any(int least, int greatest) {
        return next(25) == 0 ? WILD[next(WILD.length)] : least + next(greatest - least + 1);
    }

    /** Most runs keep to two pairs, so that these meet in couplings. */
    private int anyPair() {
        return any(0, run % 3 == 0 ? 3 : 1);
    }

    private void oneRun(int number) {
        run = number;
        seed = 977L * number + 5;
        x = new PlateSlabs();
        model = new Model();
        calls = 0;
        while (calls < CALLS - CALLS_OF_A_TRIAL - CALLS_OF_ALL) {
            switch (next(4)) {
                case 0:
                    actOfPairs();
                    break;
                case 1:
                    tellOne();
                    break;
                case 2:
                    tellMany();
                    break;
                default:
                    textOrHistory();
                    break;
            }
        }
        tellAll();
        DUE.is("run " + run + " has more calls than " + CALLS, calls > CALLS ? calls : 0, 0);
    }

    private void is(String call, long got, long want) {
        calls++;
        DUE.is("run " + run + " call " + calls + " " + call, got, want);
    }

    private void actOfPairs() {
        int p = anyPair();
        switch (next(8)) {
            case 0:
            case 1:
                int which = any(0, 5);
                int value = which < 0 || which > 5 ? 1 : next(4) == 0
                    ? any(LEAST[which], GREATEST[which]) : any(LEAST[which], USUAL[which]);
                is("set " + p + " " + which + " " + value, x.set(p, which, value), model.set(p, which, value));
                break;
            case 2:
            case 3:
                int voltage = next(3) == 0 ? 30 : any(0, 30);
                is("turnOn " + p + " " + voltage, x.turnOn(p, voltage), model.turnOn(p, voltage));
                break;
            case 4:
                is("turnOff " + p, x.turnOff(p), model.turnOff(p));
                break;
            case 5:
                int depth = next(3) == 0 ? 40 * next(2) : any(0, 40);
                is("put " + p + " " + depth, x.put(p, depth), model.put(p, depth));
                break;
            case 6:
                int other = anyPair();
                is("turnOff " + p, x.turnOff(p), model.turnOff(p));
                is("turnOff " + other, x.turnOff(other), model.turnOff(other));
                is("couple " + p + " " + other, x.couple(p, other), model.couple(p, other));
                break;
            default:
                int ticks = next(2) == 0 ? any(1, 3) : any(1, 99);
                is("pass " + ticks, x.pass(ticks), model.pass(ticks));
                break;
        }
    }

    private String anyThing() {
        switch (next(6)) {
            case 0:
                return "b" + next(4) + "=" + next(31);
            case 1:
                return "o" + next(4);
            case 2:
                return "d" + next(4) + "=" + next(41);
            case 3:
                return "o0;o1;c" + next(2) + next(2);
            case 4:
                return "c" + next(4) + next(4);
            default:
                return "." + (1 + next(99));
        }
    }

    private void typeTrial() {
        StringBuilder trial = new StringBuilder(anyThing());
        int more = run % 50 == 7 ? 20 : next(6);
        for (int i = 0; i < more; i++) {
            trial.append(';').append(run % 50 == 7 ? ".99" : anyThing());
        }
        if (next(3) == 0) {
            String signs = "bodc.;=0123456789x \u0130";
            trial.setCharAt(next(trial.length()), signs.charAt(next(signs.length())));
        }
        if (run % 50 == 7 && trial.length() > 59) {
            trial.setLength(59);
        }
        is("clearText", x.clearText(), model.clearText());
        for (int i = 0; i < trial.length(); i++) {
            is("type", x.type(trial.charAt(i)), model.type(trial.charAt(i)));
        }
        is("perform " + trial, x.perform(), model.perform());
        is("stopped 0", x.stopped(0), model.stopped(0));
        is("stopped 1", x.stopped(1), model.stopped(1));
    }

    private void textOrHistory() {
        switch (next(6)) {
            case 0:
                typeTrial();
                break;
            case 1:
                is("perform", x.perform(), model.perform());
                break;
            case 2:
                is("undo", x.undo(), model.undo());
                break;
            case 3:
                if (next(4) == 0) {
                    is("keep", x.keep(), model.keep());
                }
                break;
            case 4:
                if (next(3) == 0) {
                    is("restore", x.restore(), model.restore());
                }
                break;
            default:
                char character = (char) next(128);
                is("type", x.type(character), model.type(character));
                break;
        }
    }

    private void tellOne() {
        int p = anyPair();
        int what = any(0, 14);
        switch (next(5)) {
            case 0:
                is("pair " + p + " " + what, x.pair(p, what), model.pair(p, what));
                break;
            case 1:
                is("book " + p + " " + what, x.book(p, what), model.book(p, what));
                break;
            case 2:
                is("count " + what, x.count(what), model.count(what));
                break;
            case 3:
                int depth = any(0, 40);
                is("force " + p + " " + depth, x.force(p, depth), model.force(p, depth));
                break;
            default:
                is("stopped " + what, x.stopped(what), model.stopped(what));
                break;
        }
    }

    private void tellMany() {
        int p = anyPair();
        int ticks = any(1, 400);
        is("strongest", x.strongest(), model.strongest());
        is("reason " + p, x.reason(p), model.reason(p));
        is("restsIn " + p, x.restsIn(p), model.restsIn(p));
        is("depthIn " + p + " " + ticks, x.depthIn(p, ticks), model.depthIn(p, ticks));
        is("leastVoltage " + p, x.leastVoltage(p), model.leastVoltage(p));
        is("drawingVoltage " + p, x.drawingVoltage(p), model.drawingVoltage(p));
    }

    private void tellAll() {
        for (int p = -1; p <= 4; p++) {
            for (int what = -1; what <= 13; what++) {
                is("pair " + p + " " + what, x.pair(p, what), model.pair(p, what));
                is("book " + p + " " + what, x.book(p, what), model.book(p, what));
            }
        }
        for (int what = -1; what <= 13; what++) {
            is("count " + what, x.count(what), model.count(what));
        }
    }
}
