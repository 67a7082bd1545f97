import com.sun.management.ThreadMXBean;
import java.lang.management.ManagementFactory;

/** All calls of a run live in one room: so no call makes objects, only the constructor does. */
public final class RoomTest {
    private static final Due DUE = new Due("RoomTest");
    private static final int CALLS = 512;
    // What the machine itself may need once, when it meets a call for the first time.
    private static final long SLACK = 256 * 1024;

    public static void main(String[] args) {
        ThreadMXBean bean = (ThreadMXBean) ManagementFactory.getThreadMXBean();
        bean.getCurrentThreadAllocatedBytes();
        PlateSlabs x = new PlateSlabs();
        Due.write(x, "b0=9;d1=7;b1=3;o0;.5;o1;c01;d2=4;.99;.99");
        for (int round = 0; round < 40; round++) {
            callAll(x, round);
        }
        long before = bean.getCurrentThreadAllocatedBytes();
        for (int i = 0; i < CALLS; i++) {
            callAll(x, i);
        }
        long made = bean.getCurrentThreadAllocatedBytes() - before;
        DUE.is("bytes made by " + CALLS + " rounds of all calls (" + made + ") are too many", made > SLACK ? 1 : 0, 0);
        DUE.end();
    }

    private static void callAll(PlateSlabs x, int round) {
        x.set(0, 2, round % 3);
        x.turnOn(0, round % 31);
        x.turnOff(0);
        x.put(1, round % 41);
        x.couple(0, 1);
        x.pass(1 + round % 99);
        x.type('x');
        x.undo();
        x.keep();
        x.restore();
        x.perform();
        x.stopped(0);
        for (int what = 0; what < 13; what++) {
            x.pair(0, what);
            x.book(0, what);
            x.count(what);
        }
        x.reason(0);
        x.force(0, 5);
        x.restsIn(0);
        x.depthIn(0, 400);
        x.leastVoltage(0);
        x.drawingVoltage(0);
        x.strongest();
    }
}
