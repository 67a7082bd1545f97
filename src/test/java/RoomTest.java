import com.sun.management.ThreadMXBean;
import java.lang.management.ManagementFactory;

/** All calls of a run live in one room: so no call makes objects, only the constructor does. */
public final class RoomTest {
    private static final Due DUE = new Due("RoomTest");
    // An object is used for at most 512 calls, and a round has some 80.
    private static final int OBJECTS = 100;
    private static final int ROUNDS = 6;
    // What the machine itself may need once; one object of each round is more than that.
    private static final long SLACK = 8 * 1024;

    public static void main(String[] args) {
        ThreadMXBean bean = (ThreadMXBean) ManagementFactory.getThreadMXBean();
        bean.getCurrentThreadAllocatedBytes();
        PlateSlabs[] objects = new PlateSlabs[OBJECTS];
        for (int i = 0; i < OBJECTS; i++) {
            objects[i] = new PlateSlabs();
        }
        callRounds(objects, 0, 6);
        long before = bean.getCurrentThreadAllocatedBytes();
        callRounds(objects, 6, OBJECTS);
        long made = bean.getCurrentThreadAllocatedBytes() - before;
        String call = "bytes made by " + ROUNDS * (OBJECTS - 6) + " rounds of all calls (" + made + ") are too many";
        DUE.is(call, made > SLACK ? 1 : 0, 0);
        DUE.end();
    }

    private static void callRounds(PlateSlabs[] objects, int first, int end) {
        for (int i = first; i < end; i++) {
            for (int round = 0; round < ROUNDS; round++) {
                callAll(objects[i], ROUNDS * i + round);
            }
        }
    }

    private static void callAll(PlateSlabs x, int round) {
        x.set(0, 2, round % 3);
        x.turnOn(0, round % 31);
        x.turnOff(0);
        x.put(1, round % 41);
        x.couple(0, 1);
        x.pass(1 + round % 99);
        Due.write(x, "b0=9;o0;d1=7;c01;.9");
        x.perform();
        type(x, ";c11");
        x.perform();
        type(x, ";x");
        x.perform();
        x.stopped(0);
        x.undo();
        x.keep();
        x.restore();
        for (int what = 0; what < 13; what++) {
            x.pair(0, what);
            x.book(0, what);
            x.count(what);
        }
        x.reason(0);
        x.force(0, 5);
        x.restsIn(0);
        x.depthIn(0, 400);
        x.leastVoltage(0);
        x.drawingVoltage(0);
        x.strongest();
    }

    private static void type(PlateSlabs x, String more) {
        for (int i = 0; i < more.length(); i++) {
            x.type(more.charAt(i));
        }
    }
}
