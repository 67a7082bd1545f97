/** What can be seen of an object without changing it. */
final class Sight {
    private static final int[] TOLD_OF_STATE = {0, 1, 2, 3, 4, 5, 6, 8, 9, 10};
    private static final int[] DEPTHS = {0, 17, 40};

    private Sight() {
    }

    /** All that a state is; everything else that is told of it follows from this. */
    static long[] ofState(PlateSlabs x) {
        long[] seen = new long[4 * (TOLD_OF_STATE.length + 3) + 3];
        int at = 0;
        for (int pair = 0; pair < 4; pair++) {
            for (int what : TOLD_OF_STATE) {
                seen[at++] = x.pair(pair, what);
            }
            for (int what = 1; what <= 3; what++) {
                seen[at++] = x.book(pair, what);
            }
        }
        for (int what : new int[] {0, 7, 8}) {
            seen[at++] = x.count(what);
        }
        return seen;
    }

    static int numbersThatDiffer(long[] one, long[] other) {
        int differ = 0;
        for (int i = 0; i < one.length; i++) {
            differ += one[i] != other[i] ? 1 : 0;
        }
        return differ;
    }

    /** All that an object tells, but for the latest stop. */
    static long[] ofAll(PlateSlabs x) {
        long[] seen = new long[4 * (13 + 5 + 5 + DEPTHS.length) + 1 + 11];
        int at = 0;
        for (int pair = 0; pair < 4; pair++) {
            for (int what = 0; what <= 12; what++) {
                seen[at++] = x.pair(pair, what);
            }
            for (int what = 0; what <= 4; what++) {
                seen[at++] = x.book(pair, what);
            }
            for (int depth : DEPTHS) {
                seen[at++] = x.force(pair, depth);
            }
            seen[at++] = x.reason(pair);
            seen[at++] = x.restsIn(pair);
            seen[at++] = x.depthIn(pair, 3);
            seen[at++] = x.leastVoltage(pair);
            seen[at++] = x.drawingVoltage(pair);
        }
        seen[at++] = x.strongest();
        for (int what = 0; what <= 10; what++) {
            seen[at++] = x.count(what);
        }
        return seen;
    }
}
