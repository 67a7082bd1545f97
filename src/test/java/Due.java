/** Counts the answers of a test that are not as due, and prints them. */
final class Due {
    private final String test;
    private int wrong;
    private int told;

    Due(String test) {
        this.test = test;
    }

    void is(String call, long got, long want) {
        told++;
        if (got != want) {
            wrong++;
            System.out.println(test + ": " + call + " answered " + got + ", due is " + want);
        }
    }

    void same(String call, long[] got, long[] want) {
        is(call + ": numbers told", got.length, want.length);
        for (int i = 0; i < want.length && i < got.length; i++) {
            is(call + ": number " + i, got[i], want[i]);
        }
    }

    /** Types a whole text in place of the one that was. */
    static void write(PlateSlabs slabs, String text) {
        slabs.clearText();
        for (int i = 0; i < text.length(); i++) {
            slabs.type(text.charAt(i));
        }
    }

    static int performed(PlateSlabs slabs, String text) {
        write(slabs, text);
        return slabs.perform();
    }

    void end() {
        System.out.println(test + ": " + told + " answers, " + wrong + " of them not as due");
        if (wrong != 0 || told == 0) {
            System.exit(1);
        }
    }
}
