import java.math.BigInteger;
import java.util.ArrayDeque;
import java.util.Deque;
import java.util.regex.Matcher;
import java.util.regex.Pattern;

/**
 * A second PlateSlabs for ModelTest, as plain as can be: a state is one row of numbers that is copied
 * for each act, texts are read by a pattern, and what will be is told by letting ticks pass on a copy.
 */
final class Model {
    private static final int[] LEAST = {1, 1, 0, 0, 0, 0};
    private static final int[] GREATEST = {9, 9, 999, 40, 9999, 100};
    private static final int DEPTH = 6, CHARGE = 7, VOLTAGE = 8, ON = 9, GAVE = 10, LEAKED = 11, SPARKS = 12;
    private static final int WIDTH = 13, TICK = 52, COUPLINGS = 53, STEPS = 54;
    private static final String NUMBER_30 = "(?:[0-9]|[12][0-9]|30)";
    private static final String NUMBER_40 = "(?:[0-9]|[1-3][0-9]|40)";
    private static final String THING = "(?:b[0-3]=" + NUMBER_30 + "|o[0-3]|d[0-3]=" + NUMBER_40
        + "|c[0-3][0-3]|\\.[1-9][0-9]?)";
    private static final Pattern TRIAL = Pattern.compile(THING + "(?:;" + THING + ")*", Pattern.DOTALL);

    private long[] s = new long[55];
    private final Deque<long[]> history = new ArrayDeque<>();
    private long[] snapshot;
    private String text = "";
    private int[] stop;

    Model() {
        for (int p = 0; p < 4; p++) {
            s[p * WIDTH] = 1;
            s[p * WIDTH + 1] = 2;
            s[p * WIDTH + VOLTAGE] = 10;
        }
    }

    private static boolean in(long number, long least, long greatest) {
        return number >= least && number <= greatest;
    }

    private static long floor(long number, long... by) {
        BigInteger divisor = BigInteger.ONE;
        for (long one : by) {
            divisor = divisor.multiply(BigInteger.valueOf(one));
        }
        BigInteger[] both = BigInteger.valueOf(number).divideAndRemainder(divisor);
        return both[1].signum() < 0 ? both[0].longValueExact() - 1 : both[0].longValueExact();
    }

    private static long c(long[] s, int p, long depth) {
        return s[p * WIDTH] * (40 + (s[p * WIDTH + 1] - 1) * depth);
    }

    private static long c(long[] s, int p) {
        return c(s, p, s[p * WIDTH + DEPTH]);
    }

    private static boolean on(long[] s, int p) {
        return s[p * WIDTH + ON] == 1;
    }

    private static long stored(long[] s, int p) {
        long q = s[p * WIDTH + CHARGE];
        return on(s, p) ? s[p * WIDTH + VOLTAGE] * q : floor(q * q, c(s, p));
    }

    private static long pull(long[] s, int p, long depth) {
        long front = s[p * WIDTH] * (s[p * WIDTH + 1] - 1);
        long v = s[p * WIDTH + VOLTAGE];
        long q = s[p * WIDTH + CHARGE];
        return on(s, p) ? front * v * v : floor(front * q * q, c(s, p, depth), c(s, p, depth));
    }

    private static long net(long[] s, int p, long depth) {
        return pull(s, p, depth) - s[p * WIDTH + 2] * (depth - s[p * WIDTH + 3]);
    }

    private static int why(long[] s, int p) {
        long depth = s[p * WIDTH + DEPTH];
        long net = net(s, p, depth);
        if (net == 0) {
            return 2;
        }
        if (Math.abs(net) <= s[p * WIDTH + 4]) {
            return 3;
        }
        if (depth == (net > 0 ? 40 : 0)) {
            return 4;
        }
        return net > 0 ? 0 : 1;
    }

    private static void hold(long[] s, int p) {
        if (on(s, p)) {
            long more = c(s, p) * s[p * WIDTH + VOLTAGE] - s[p * WIDTH + CHARGE];
            s[p * WIDTH + CHARGE] += more;
            s[p * WIDTH + GAVE] += 2 * s[p * WIDTH + VOLTAGE] * more;
        }
    }

    private static boolean tick(long[] s, int p) {
        if (!on(s, p)) {
            long before = stored(s, p);
            s[p * WIDTH + CHARGE] -= floor(s[p * WIDTH + CHARGE] * s[p * WIDTH + 5], 1000);
            s[p * WIDTH + LEAKED] += before - stored(s, p);
        }
        int why = why(s, p);
        if (why == 0) {
            s[p * WIDTH + DEPTH]++;
        } else if (why == 1) {
            s[p * WIDTH + DEPTH]--;
        }
        hold(s, p);
        return why < 2;
    }

    private static long doSet(long[] s, int p, int which, int value) {
        if (!in(p, 0, 3) || !in(which, 0, 5)) {
            return -1;
        }
        if (!in(value, LEAST[which], GREATEST[which])) {
            return -2;
        }
        long was = s[p * WIDTH + which];
        s[p * WIDTH + which] = value;
        hold(s, p);
        return was == value ? -5 : was;
    }

    private static long doTurnOn(long[] s, int p, int voltage) {
        if (!in(p, 0, 3)) {
            return -1;
        }
        if (!in(voltage, 0, 30)) {
            return -2;
        }
        if (on(s, p) && s[p * WIDTH + VOLTAGE] == voltage) {
            return -5;
        }
        s[p * WIDTH + ON] = 1;
        s[p * WIDTH + VOLTAGE] = voltage;
        hold(s, p);
        return s[p * WIDTH + CHARGE];
    }

    private static long doTurnOff(long[] s, int p) {
        if (!in(p, 0, 3)) {
            return -1;
        }
        if (!on(s, p)) {
            return -5;
        }
        s[p * WIDTH + ON] = 0;
        return s[p * WIDTH + CHARGE];
    }

    private static long doPut(long[] s, int p, int depth) {
        if (!in(p, 0, 3)) {
            return -1;
        }
        if (!in(depth, 0, 40)) {
            return -2;
        }
        long was = s[p * WIDTH + DEPTH];
        s[p * WIDTH + DEPTH] = depth;
        hold(s, p);
        return was == depth ? -5 : was;
    }

    private static long doCouple(long[] s, int p, int o) {
        if (!in(p, 0, 3) || !in(o, 0, 3)) {
            return -1;
        }
        if (p == o) {
            return -2;
        }
        if (on(s, p) || on(s, o)) {
            return -4;
        }
        long before = stored(s, p) + stored(s, o);
        long was = s[p * WIDTH + CHARGE];
        long all = was + s[o * WIDTH + CHARGE];
        long first = floor(all * c(s, p), c(s, p) + c(s, o));
        if (first > 200000 || all - first > 200000) {
            return -3;
        }
        if (first == was) {
            return -5;
        }
        s[p * WIDTH + CHARGE] = first;
        s[o * WIDTH + CHARGE] = all - first;
        long loss = before - stored(s, p) - stored(s, o);
        s[p * WIDTH + SPARKS] += floor(loss, 2);
        s[o * WIDTH + SPARKS] += loss - floor(loss, 2);
        s[COUPLINGS]++;
        return first;
    }

    private static long doPass(long[] s, int ticks) {
        if (!in(ticks, 1, 99)) {
            return -2;
        }
        if (s[TICK] + ticks > 99999) {
            return -3;
        }
        long moved = 0;
        for (int i = 0; i < ticks; i++) {
            moved = 0;
            for (int p = 0; p < 4; p++) {
                moved += tick(s, p) ? 1 : 0;
            }
            s[STEPS] += moved;
            s[TICK]++;
        }
        return moved;
    }

    /** Keeps the new state if the act was done, and the old one as history. */
    private long act(long[] behind, long answer) {
        if (answer >= 0) {
            history.addLast(s);
            if (history.size() > 4) {
                history.removeFirst();
            }
            s = behind;
        }
        return answer;
    }

    long set(int p, int which, int value) {
        long[] n = s.clone();
        return act(n, doSet(n, p, which, value));
    }

    long turnOn(int p, int voltage) {
        long[] n = s.clone();
        return act(n, doTurnOn(n, p, voltage));
    }

    long turnOff(int p) {
        long[] n = s.clone();
        return act(n, doTurnOff(n, p));
    }

    long put(int p, int depth) {
        long[] n = s.clone();
        return act(n, doPut(n, p, depth));
    }

    long couple(int p, int o) {
        long[] n = s.clone();
        return act(n, doCouple(n, p, o));
    }

    long pass(int ticks) {
        long[] n = s.clone();
        return act(n, doPass(n, ticks));
    }

    long type(char character) {
        if (text.length() == 60) {
            return -3;
        }
        text += character;
        return text.length();
    }

    long clearText() {
        int had = text.length();
        text = "";
        return had;
    }

    /** The first character behind which no more characters could make a trial, or the length. */
    private int fault() {
        for (int end = 1; end <= text.length(); end++) {
            Matcher matcher = TRIAL.matcher(text.substring(0, end));
            if (!matcher.matches() && !matcher.hitEnd()) {
                return end - 1;
            }
        }
        return text.length();
    }

    private static long doThing(long[] n, String thing) {
        String[] sides = thing.substring(1).split("=");
        switch (thing.charAt(0)) {
            case 'b':
                return doTurnOn(n, Integer.parseInt(sides[0]), Integer.parseInt(sides[1]));
            case 'o':
                return doTurnOff(n, Integer.parseInt(sides[0]));
            case 'd':
                return doPut(n, Integer.parseInt(sides[0]), Integer.parseInt(sides[1]));
            case 'c':
                return doCouple(n, thing.charAt(1) - '0', thing.charAt(2) - '0');
            default:
                return doPass(n, Integer.parseInt(sides[0]));
        }
    }

    long perform() {
        if (!TRIAL.matcher(text).matches()) {
            return -100 - fault();
        }
        long[] n = s.clone();
        String[] things = text.split(";");
        for (int i = 0; i < things.length; i++) {
            long answer = doThing(n, things[i]);
            if (answer < 0 && answer != -5) {
                stop = new int[] {i, (int) answer};
                return -4;
            }
        }
        return act(n, things.length);
    }

    long stopped(int what) {
        return !in(what, 0, 1) ? -2 : stop == null ? -5 : stop[what];
    }

    long undo() {
        if (history.isEmpty()) {
            return -5;
        }
        s = history.removeLast();
        return history.size();
    }

    long keep() {
        snapshot = s.clone();
        return s[TICK];
    }

    long restore() {
        return snapshot == null ? -5 : act(snapshot.clone(), snapshot[TICK]);
    }

    long pair(int p, int what) {
        if (!in(p, 0, 3)) {
            return -1;
        }
        if (!in(what, 0, 12)) {
            return -2;
        }
        long depth = s[p * WIDTH + DEPTH];
        long back = s[p * WIDTH + 2] * (depth - s[p * WIDTH + 3]);
        return what < 6 ? s[p * WIDTH + what] : new long[] {depth, c(s, p), s[p * WIDTH + CHARGE],
            s[p * WIDTH + VOLTAGE], s[p * WIDTH + ON], pull(s, p, depth), Math.abs(back)}[what - 6];
    }

    long book(int p, int what) {
        if (!in(p, 0, 3)) {
            return -1;
        }
        if (!in(what, 0, 4)) {
            return -2;
        }
        long gave = s[p * WIDTH + GAVE];
        long leaked = s[p * WIDTH + LEAKED];
        long sparks = s[p * WIDTH + SPARKS];
        return new long[] {stored(s, p), gave, leaked, sparks, gave - (stored(s, p) + leaked + sparks)}[what];
    }

    long reason(int p) {
        return in(p, 0, 3) ? why(s, p) : -1;
    }

    long force(int p, int depth) {
        return !in(p, 0, 3) ? -1 : !in(depth, 0, 40) ? -2 : Math.abs(net(s, p, depth));
    }

    long restsIn(int p) {
        if (!in(p, 0, 3)) {
            return -1;
        }
        long[] n = s.clone();
        int ticks = 0;
        while (ticks <= 400 && tick(n, p)) {
            ticks++;
        }
        return ticks > 400 ? -5 : ticks;
    }

    long depthIn(int p, int ticks) {
        if (!in(p, 0, 3)) {
            return -1;
        }
        if (!in(ticks, 1, 400)) {
            return -2;
        }
        long[] n = s.clone();
        for (int i = 0; i < ticks; i++) {
            tick(n, p);
        }
        return n[p * WIDTH + DEPTH];
    }

    long leastVoltage(int p) {
        if (!in(p, 0, 3)) {
            return -1;
        }
        for (int voltage = 0; voltage <= 30; voltage++) {
            long[] n = s.clone();
            doTurnOn(n, p, voltage);
            if (why(n, p) == 0) {
                return voltage;
            }
        }
        return -5;
    }

    long drawingVoltage(int p) {
        if (!in(p, 0, 3)) {
            return -1;
        }
        for (int voltage = 0; voltage <= 30; voltage++) {
            long[] n = s.clone();
            doTurnOn(n, p, voltage);
            for (int ticks = 0; ticks < 400 && n[p * WIDTH + DEPTH] < 40; ticks++) {
                tick(n, p);
            }
            if (n[p * WIDTH + DEPTH] == 40) {
                return voltage;
            }
        }
        return -5;
    }

    long strongest() {
        int best = -5;
        long most = 0;
        for (int p = 3; p >= 0; p--) {
            long pull = pull(s, p, s[p * WIDTH + DEPTH]);
            if (pull > 0 && pull >= most) {
                most = pull;
                best = p;
            }
        }
        return best;
    }

    long count(int what) {
        long[] told = {s[TICK], 0, 0, 0, 0, 0, 0, s[COUPLINGS], s[STEPS], history.size(), text.length()};
        for (int p = 0; p < 4; p++) {
            told[1] += s[p * WIDTH + ON];
            told[2] += why(s, p) < 2 ? 1 : 0;
            told[3] += s[p * WIDTH + CHARGE];
            told[4] += c(s, p);
            told[5] += s[p * WIDTH + DEPTH];
            told[6] += s[p * WIDTH + DEPTH] == 40 ? 1 : 0;
        }
        return in(what, 0, 10) ? told[what] : -2;
    }
}
