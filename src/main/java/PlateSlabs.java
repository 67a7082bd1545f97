/** Slabs between charged plates, with springs, leaks, batteries, couplings and a book of energies. */
public final class PlateSlabs {
    public static final int UNKNOWN = -1;
    public static final int BAD_VALUE = -2;
    public static final int FULL = -3;
    public static final int NOT_POSSIBLE = -4;
    public static final int NONE = -5;

    private static final int PAIRS = 4;
    private static final int DEEPEST = 40;
    private static final int HIGHEST_VOLTAGE = 30;
    private static final int MOST_CHARGE = 200000;
    private static final int MOST_TICKS = 99;
    private static final int LAST_TICK = 99999;
    private static final int MOST_FORESEEN = 400;
    private static final int MOST_SIGNS = 60;
    private static final int MOST_STATES = 4;
    private static final int FIRST_FAULT = -100;

    private final State now = new State();
    // The state ahead of the act that is being done: for the history, and for a trial that is stopped.
    private final State before = new State();
    private final State snapshot = new State();
    private boolean isKept;
    private final History history = new History();
    // A copy on which ticks are tried, so that telling what will be makes no new object.
    private final Plates guess = new Plates();
    private final Trial trial = new Trial();
    private boolean wasStopped;
    private int stopNumber;
    private int stopError;

    public PlateSlabs() {
    }

    // ---- pairs

    public int set(int pair, int which, int value) {
        before.copyFrom(now);
        return recorded(now.change(pair, which, value));
    }

    public int turnOn(int pair, int voltage) {
        before.copyFrom(now);
        return recorded(now.connect(pair, voltage));
    }

    public int turnOff(int pair) {
        before.copyFrom(now);
        return recorded(now.disconnect(pair));
    }

    public int put(int pair, int depth) {
        before.copyFrom(now);
        return recorded(now.putSlab(pair, depth));
    }

    public int couple(int pair, int other) {
        before.copyFrom(now);
        return recorded(now.share(pair, other));
    }

    public int pass(int ticks) {
        before.copyFrom(now);
        return recorded(now.letPass(ticks));
    }

    /** Records the state before an act that was done; every act that is done answers 0 or more. */
    private int recorded(int answer) {
        if (answer >= 0) {
            history.push(before);
        }
        return answer;
    }

    // ---- texts

    public int type(char character) {
        return trial.text.append(character);
    }

    public int clearText() {
        return trial.text.empty();
    }

    public int perform() {
        int fault = trial.read();
        if (fault != Trial.NO_FAULT) {
            return FIRST_FAULT - fault;
        }
        before.copyFrom(now);
        for (int number = 0; number < trial.things; number++) {
            int answer = doThing(number);
            if (answer < 0 && answer != NONE) {
                stopAt(number, answer);
                return NOT_POSSIBLE;
            }
        }
        return recorded(trial.things);
    }

    private int doThing(int number) {
        int pair = trial.pairOf(number);
        int value = trial.valueOf(number);
        switch (trial.kindOf(number)) {
            case 'b':
                return now.connect(pair, value);
            case 'o':
                return now.disconnect(pair);
            case 'd':
                return now.putSlab(pair, value);
            case 'c':
                return now.share(pair, value);
            default:
                return now.letPass(value);
        }
    }

    private void stopAt(int number, int error) {
        now.copyFrom(before);
        wasStopped = true;
        stopNumber = number;
        stopError = error;
    }

    public int stopped(int what) {
        if (what < 0 || what > 1) {
            return BAD_VALUE;
        }
        if (!wasStopped) {
            return NONE;
        }
        return what == 0 ? stopNumber : stopError;
    }

    // ---- history

    public int undo() {
        return history.popInto(now);
    }

    public int keep() {
        snapshot.copyFrom(now);
        isKept = true;
        return now.tick;
    }

    public int restore() {
        if (!isKept) {
            return NONE;
        }
        before.copyFrom(now);
        now.copyFrom(snapshot);
        return recorded(now.tick);
    }

    // ---- what is told

    public int pair(int pair, int what) {
        if (!isPair(pair)) {
            return UNKNOWN;
        }
        Plates plates = now.pairs[pair];
        if (Plates.isSetting(what)) {
            return plates.settings[what];
        }
        switch (what) {
            case 6:
                return plates.depth;
            case 7:
                return plates.capacityAt(plates.depth);
            case 8:
                return plates.charge;
            case 9:
                return plates.voltage;
            case 10:
                return plates.isOn ? 1 : 0;
            case 11:
                return plates.pullAt(plates.depth);
            case 12:
                return Math.abs(plates.drawnBackAt(plates.depth));
            default:
                return BAD_VALUE;
        }
    }

    public long book(int pair, int what) {
        if (!isPair(pair)) {
            return UNKNOWN;
        }
        Plates plates = now.pairs[pair];
        switch (what) {
            case 0:
                return plates.stored();
            case 1:
                return plates.gave;
            case 2:
                return plates.leaked;
            case 3:
                return plates.sparked;
            case 4:
                return plates.gave - plates.stored() - plates.leaked - plates.sparked;
            default:
                return BAD_VALUE;
        }
    }

    public int reason(int pair) {
        return isPair(pair) ? now.pairs[pair].reasonNow() : UNKNOWN;
    }

    public int force(int pair, int depth) {
        if (!isPair(pair)) {
            return UNKNOWN;
        }
        if (!isDepth(depth)) {
            return BAD_VALUE;
        }
        return Math.abs(now.pairs[pair].netAt(depth));
    }

    public int restsIn(int pair) {
        if (!isPair(pair)) {
            return UNKNOWN;
        }
        guess.copyFrom(now.pairs[pair]);
        for (int ticks = 0; ticks <= MOST_FORESEEN; ticks++) {
            if (!guess.movesInTick()) {
                return ticks;
            }
        }
        return NONE;
    }

    public int depthIn(int pair, int ticks) {
        if (!isPair(pair)) {
            return UNKNOWN;
        }
        if (ticks < 1 || ticks > MOST_FORESEEN) {
            return BAD_VALUE;
        }
        guess.copyFrom(now.pairs[pair]);
        for (int i = 0; i < ticks; i++) {
            guess.movesInTick();
        }
        return guess.depth;
    }

    public int leastVoltage(int pair) {
        if (!isPair(pair)) {
            return UNKNOWN;
        }
        Plates plates = now.pairs[pair];
        for (int voltage = 0; voltage <= HIGHEST_VOLTAGE; voltage++) {
            if (plates.isDrawnInAt(plates.depth, voltage)) {
                return voltage;
            }
        }
        return NONE;
    }

    public int drawingVoltage(int pair) {
        if (!isPair(pair)) {
            return UNKNOWN;
        }
        for (int voltage = 0; voltage <= HIGHEST_VOLTAGE; voltage++) {
            if (now.pairs[pair].isDrawnAllTheWayIn(voltage)) {
                return voltage;
            }
        }
        return NONE;
    }

    public int strongest() {
        int greatest = 0;
        int found = NONE;
        for (int i = 0; i < PAIRS; i++) {
            Plates plates = now.pairs[i];
            int pull = plates.pullAt(plates.depth);
            if (pull > greatest) {
                greatest = pull;
                found = i;
            }
        }
        return found;
    }

    public int count(int what) {
        switch (what) {
            case 0:
                return now.tick;
            case 7:
                return now.couplings;
            case 8:
                return now.steps;
            case 9:
                return history.size;
            case 10:
                return trial.text.length;
            default:
                return what >= 1 && what <= 6 ? sumOfPairs(what) : BAD_VALUE;
        }
    }

    private int sumOfPairs(int what) {
        int sum = 0;
        for (int i = 0; i < PAIRS; i++) {
            sum += partOfCount(now.pairs[i], what);
        }
        return sum;
    }

    private static int partOfCount(Plates plates, int what) {
        switch (what) {
            case 1:
                return plates.isOn ? 1 : 0;
            case 2:
                return plates.reasonNow() <= Plates.MOVES_OUT ? 1 : 0;
            case 3:
                return plates.charge;
            case 4:
                return plates.capacityAt(plates.depth);
            case 5:
                return plates.depth;
            default:
                return plates.depth == DEEPEST ? 1 : 0;
        }
    }

    private static boolean isPair(int number) {
        return number >= 0 && number < PAIRS;
    }

    private static boolean isDepth(int depth) {
        return depth >= 0 && depth <= DEEPEST;
    }

    /** One pair of plates with its slab, its spring, its battery and its book. */
    private static final class Plates {
        static final int AREA = 0;
        static final int STUFF = 1;
        static final int STRENGTH = 2;
        static final int REST = 3;
        static final int FRICTION = 4;
        static final int LEAK = 5;
        static final int SETTINGS = 6;

        static final int MOVES_IN = 0;
        static final int MOVES_OUT = 1;
        static final int NO_FORCE = 2;
        static final int FRICTION_HOLDS = 3;
        static final int AT_THE_END = 4;

        private static final int[] LEAST = {1, 1, 0, 0, 0, 0};
        private static final int[] GREATEST = {9, 9, 999, 40, 9999, 100};

        final int[] settings = {1, 2, 0, 0, 0, 0};
        int depth;
        int charge;
        int voltage = 10;
        boolean isOn;
        long gave;
        long leaked;
        long sparked;

        static boolean isSetting(int which) {
            return which >= 0 && which < SETTINGS;
        }

        static boolean isInRange(int which, int value) {
            return isSetting(which) && value >= LEAST[which] && value <= GREATEST[which];
        }

        void copyFrom(Plates other) {
            System.arraycopy(other.settings, 0, settings, 0, SETTINGS);
            depth = other.depth;
            charge = other.charge;
            voltage = other.voltage;
            isOn = other.isOn;
            gave = other.gave;
            leaked = other.leaked;
            sparked = other.sparked;
        }

        /** 40 or more, as area and stuff are never below 1: so it may divide. */
        int capacityAt(int place) {
            return settings[AREA] * (DEEPEST + (settings[STUFF] - 1) * place);
        }

        long stored() {
            if (isOn) {
                return (long) voltage * charge;
            }
            long capacity = capacityAt(depth);
            return capacity < 1 ? 0 : (long) charge * charge / capacity;
        }

        int pullOf(int someVoltage) {
            return settings[AREA] * (settings[STUFF] - 1) * someVoltage * someVoltage;
        }

        int pullAt(int place) {
            if (isOn) {
                return pullOf(voltage);
            }
            long capacity = capacityAt(place);
            if (capacity < 1) {
                return 0;
            }
            long steepness = settings[AREA] * (settings[STUFF] - 1);
            return (int) (steepness * charge * charge / (capacity * capacity));
        }

        int drawnBackAt(int place) {
            return settings[STRENGTH] * (place - settings[REST]);
        }

        int netAt(int place) {
            return pullAt(place) - drawnBackAt(place);
        }

        /** 1 for a step in, -1 for a step out, 0 if the slab stays. */
        int stepBy(int net) {
            if (Math.abs(net) <= settings[FRICTION]) {
                return 0;
            }
            if (net > 0) {
                return depth < DEEPEST ? 1 : 0;
            }
            return depth > 0 ? -1 : 0;
        }

        int reasonNow() {
            int net = netAt(depth);
            if (stepBy(net) != 0) {
                return net > 0 ? MOVES_IN : MOVES_OUT;
            }
            if (net == 0) {
                return NO_FORCE;
            }
            return Math.abs(net) <= settings[FRICTION] ? FRICTION_HOLDS : AT_THE_END;
        }

        boolean isDrawnInAt(int place, int someVoltage) {
            return place < DEEPEST && pullOf(someVoltage) - drawnBackAt(place) > settings[FRICTION];
        }

        /** With the battery on, the force at a place is always the same: a slab that does not
            move in at one of them never comes behind it, so no ticks have to be tried. */
        boolean isDrawnAllTheWayIn(int someVoltage) {
            for (int place = depth; place < DEEPEST; place++) {
                if (!isDrawnInAt(place, someVoltage)) {
                    return false;
                }
            }
            return true;
        }

        /** Lets one tick pass; answers whether the slab moved. */
        boolean movesInTick() {
            leakAway();
            int step = stepBy(netAt(depth));
            depth += step;
            holdVoltage();
            return step != 0;
        }

        private void leakAway() {
            if (isOn) {
                return;
            }
            long storedBefore = stored();
            charge -= charge * settings[LEAK] / 1000;
            leaked += storedBefore - stored();
        }

        /** Brings the charge to what the battery asks for, if it is on, and enters it in the book. */
        void holdVoltage() {
            if (!isOn) {
                return;
            }
            int due = capacityAt(depth) * voltage;
            gave += 2L * voltage * (due - charge);
            charge = due;
        }
    }

    /** All that an act can change: the pairs, the tick and what was counted so far. */
    private static final class State {
        final Plates[] pairs = new Plates[PAIRS];
        int tick;
        int couplings;
        int steps;

        State() {
            for (int i = 0; i < PAIRS; i++) {
                pairs[i] = new Plates();
            }
        }

        void copyFrom(State other) {
            for (int i = 0; i < PAIRS; i++) {
                pairs[i].copyFrom(other.pairs[i]);
            }
            tick = other.tick;
            couplings = other.couplings;
            steps = other.steps;
        }

        int change(int number, int which, int value) {
            if (!isPair(number) || !Plates.isSetting(which)) {
                return UNKNOWN;
            }
            if (!Plates.isInRange(which, value)) {
                return BAD_VALUE;
            }
            Plates plates = pairs[number];
            int previous = plates.settings[which];
            if (previous == value) {
                return NONE;
            }
            plates.settings[which] = value;
            plates.holdVoltage();
            return previous;
        }

        int connect(int number, int voltage) {
            if (!isPair(number)) {
                return UNKNOWN;
            }
            if (voltage < 0 || voltage > HIGHEST_VOLTAGE) {
                return BAD_VALUE;
            }
            Plates plates = pairs[number];
            if (plates.isOn && plates.voltage == voltage) {
                return NONE;
            }
            plates.isOn = true;
            plates.voltage = voltage;
            plates.holdVoltage();
            return plates.charge;
        }

        int disconnect(int number) {
            if (!isPair(number)) {
                return UNKNOWN;
            }
            Plates plates = pairs[number];
            if (!plates.isOn) {
                return NONE;
            }
            plates.isOn = false;
            return plates.charge;
        }

        int putSlab(int number, int depth) {
            if (!isPair(number)) {
                return UNKNOWN;
            }
            if (!isDepth(depth)) {
                return BAD_VALUE;
            }
            Plates plates = pairs[number];
            int previous = plates.depth;
            if (previous == depth) {
                return NONE;
            }
            plates.depth = depth;
            plates.holdVoltage();
            return previous;
        }

        int share(int number, int otherNumber) {
            if (!isPair(number) || !isPair(otherNumber)) {
                return UNKNOWN;
            }
            if (number == otherNumber) {
                return BAD_VALUE;
            }
            Plates first = pairs[number];
            Plates other = pairs[otherNumber];
            if (first.isOn || other.isOn) {
                return NOT_POSSIBLE;
            }
            int all = first.charge + other.charge;
            int mine = shareOf(all, first.capacityAt(first.depth), other.capacityAt(other.depth));
            if (mine > MOST_CHARGE || all - mine > MOST_CHARGE) {
                return FULL;
            }
            if (mine == first.charge) {
                return NONE;
            }
            moveCharges(first, other, mine);
            couplings++;
            return mine;
        }

        private static int shareOf(int all, int capacity, int otherCapacity) {
            int together = capacity + otherCapacity;
            return together < 1 ? 0 : (int) ((long) all * capacity / together);
        }

        private static void moveCharges(Plates first, Plates other, int mine) {
            long storedBefore = first.stored() + other.stored();
            other.charge += first.charge - mine;
            first.charge = mine;
            long loss = storedBefore - first.stored() - other.stored();
            long half = Math.floorDiv(loss, 2L);
            first.sparked += half;
            other.sparked += loss - half;
        }

        int letPass(int ticks) {
            if (ticks < 1 || ticks > MOST_TICKS) {
                return BAD_VALUE;
            }
            if (tick + ticks > LAST_TICK) {
                return FULL;
            }
            int moved = 0;
            for (int i = 0; i < ticks; i++) {
                moved = 0;
                for (int j = 0; j < PAIRS; j++) {
                    if (pairs[j].movesInTick()) {
                        moved++;
                    }
                }
                steps += moved;
            }
            tick += ticks;
            return moved;
        }
    }

    /** The latest states, the oldest one first. */
    private static final class History {
        private final State[] states = new State[MOST_STATES];
        int size;

        History() {
            for (int i = 0; i < MOST_STATES; i++) {
                states[i] = new State();
            }
        }

        void push(State state) {
            if (size >= MOST_STATES) {
                dropOldest();
            }
            states[size].copyFrom(state);
            size++;
        }

        /** The dropped state goes to the end, to be written again: nothing new is made. */
        private void dropOldest() {
            State oldest = states[0];
            for (int i = 1; i < MOST_STATES; i++) {
                states[i - 1] = states[i];
            }
            states[MOST_STATES - 1] = oldest;
            size = MOST_STATES - 1;
        }

        int popInto(State state) {
            if (size < 1) {
                return NONE;
            }
            size--;
            state.copyFrom(states[size]);
            return size;
        }
    }

    /** The characters that were typed. */
    private static final class Text {
        private static final char NO_SIGN = 0;

        private final char[] signs = new char[MOST_SIGNS];
        int length;

        int append(char sign) {
            if (length >= MOST_SIGNS) {
                return FULL;
            }
            signs[length] = sign;
            length++;
            return length;
        }

        int empty() {
            int had = length;
            length = 0;
            return had;
        }

        /** Behind the end stands a sign that no trial allows, so the end needs no test of its own. */
        char signAt(int index) {
            return index >= 0 && index < length ? signs[index] : NO_SIGN;
        }
    }

    /** Reads the text as a trial, and holds the things that it tells. */
    private static final class Trial {
        static final int NO_FAULT = -1;

        // The shortest things take two characters, and a ";" stands between two things.
        private static final int MOST_THINGS = (MOST_SIGNS + 1) / 3;
        private static final int NO_DIGIT = -1;

        final Text text = new Text();
        private final int[] kinds = new int[MOST_THINGS];
        private final int[] pairs = new int[MOST_THINGS];
        private final int[] values = new int[MOST_THINGS];
        int things;
        private int at;
        private int pair;
        private int value;

        int kindOf(int number) {
            return isThing(number) ? kinds[number] : 0;
        }

        int pairOf(int number) {
            return isThing(number) ? pairs[number] : 0;
        }

        int valueOf(int number) {
            return isThing(number) ? values[number] : 0;
        }

        private boolean isThing(int number) {
            return number >= 0 && number < things;
        }

        /** Answers the fault of the text, or NO_FAULT. */
        int read() {
            at = 0;
            things = 0;
            while (things < MOST_THINGS) {
                int kind = text.signAt(at);
                if (!readThing(kind)) {
                    return at;
                }
                kinds[things] = kind;
                pairs[things] = pair;
                values[things] = value;
                things++;
                if (at == text.length) {
                    return NO_FAULT;
                }
                if (!readSign(';')) {
                    return at;
                }
            }
            return at;
        }

        /** Goes on as far as the text is right; a fault is at the place where it stays. */
        private boolean readThing(int kind) {
            pair = 0;
            value = 0;
            switch (kind) {
                case 'b':
                    return readSign('b') && readPair() && readSign('=') && readNumber(0, HIGHEST_VOLTAGE);
                case 'o':
                    return readSign('o') && readPair();
                case 'd':
                    return readSign('d') && readPair() && readSign('=') && readNumber(0, DEEPEST);
                case 'c':
                    return readSign('c') && readPair() && readOther();
                case '.':
                    return readSign('.') && readNumber(1, MOST_TICKS);
                default:
                    return false;
            }
        }

        private boolean readSign(char sign) {
            if (text.signAt(at) != sign) {
                return false;
            }
            at++;
            return true;
        }

        private boolean readPair() {
            pair = digitAt(at);
            if (!isPair(pair)) {
                return false;
            }
            at++;
            return true;
        }

        private boolean readOther() {
            value = digitAt(at);
            if (!isPair(value)) {
                return false;
            }
            at++;
            return true;
        }

        /** A digit that is too many is left: no number, but a ";" or the end may stand there. */
        private boolean readNumber(int least, int greatest) {
            value = digitAt(at);
            if (value < least) {
                return false;
            }
            at++;
            int next = digitAt(at);
            if (value > 0 && next != NO_DIGIT && value * 10 + next <= greatest) {
                value = value * 10 + next;
                at++;
            }
            return true;
        }

        private int digitAt(int index) {
            char sign = text.signAt(index);
            return sign >= '0' && sign <= '9' ? sign - '0' : NO_DIGIT;
        }
    }
}
