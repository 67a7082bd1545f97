/** Promises 8 to 11: type, clearText, perform, stopped. */
public final class TextsTest {
    private static final Due DUE = new Due("TextsTest");

    public static void main(String[] args) {
        typeAndClear();
        faults();
        faultChangesNothing();
        things();
        mostThings();
        allOrNothing();
        stops();
        noneDoesNotStop();
        oneAct();
        DUE.end();
    }

    private static void typeAndClear() {
        PlateSlabs x = new PlateSlabs();
        DUE.is("clearText() of nothing", x.clearText(), 0);
        for (int i = 1; i <= 60; i++) {
            DUE.is("type", x.type((char) (i * 997)), i);
        }
        DUE.is("type of one more", x.type('b'), PlateSlabs.FULL);
        DUE.is("length", x.count(10), 60);
        DUE.is("clearText()", x.clearText(), 60);
        DUE.is("clearText() again", x.clearText(), 0);
        DUE.is("type", x.type('o'), 1);
        DUE.is("no act", x.count(9), 0);
        DUE.is("undo takes no text", x.undo(), PlateSlabs.NONE);
        DUE.is("the text is still there", x.perform(), -101);
    }

    private static void fault(String text, int fault) {
        PlateSlabs x = new PlateSlabs();
        DUE.is("perform() of \"" + text + "\"", Due.performed(x, text), -100 - fault);
        DUE.is("\"" + text + "\" stays", x.clearText(), text.length());
    }

    private static void faults() {
        String[] early = {"", "b", "b0", "b0=", "o", "d", "d3", "d3=", "c", "c0", ".", "o0;", ".9;", "b0=30;", "c01;d"};
        for (String text : early) {
            fault(text, text.length());
        }
        String[] lastSignIsWrong = {"x", "B", " ", "0", ";", "=", "b4", "b/", "b:", "b=", "b0;", "b0-", "b0==", "b0=-",
            "b0=;", "b0=31", "b0=40", "b0=99", "b0=05", "b0=00", "b0=300", "b0=1 ", "b0=1.", "o4", "oo", "o0=", "o01",
            "o0o", "d4", "d0;", "d0=41", "d0=50", "d0=00", "d0=09", "d0=400", "d0=0;;", "d0=x", "c4", "c04", "c0,",
            "c0=", "c010", "c01=", ".0", ".x", ".;", ".100", ".990", ".1 ", ".12.", ".1;x", ".1;;", "o0; ", "b0=3;b0=4x",
            "b0=3;.0", "o1\u0000", "\u0000", "\u0130", "o\uff10", "b0=\u0661", "o0\uffff"};
        for (String text : lastSignIsWrong) {
            fault(text, text.length() - 1);
        }
        fault("xb0=1", 0);
        fault("b9=1;o0", 1);
        fault("b0=31;o9", 4);
        fault("b0=1,o0", 4);
        fault("c0", 2);
        fault("b0=30;b1=30;b2=30;b3=30;b0=30;b1=30;b2=30;b3=30;b0=30;b1=30;", 60);
        fault("o0;o0;o0;o0;o0;o0;o0;o0;o0;o0;o0;o0;o0;o0;o0;o0;o0;o0;o0;o0;", 60);
        fault("o0;o0;o0;o0;o0;o0;o0;o0;o0;o0;o0;o0;o0;o0;o0;o0;o0;o0;o0;o0o", 59);
    }

    private static void faultChangesNothing() {
        PlateSlabs x = new PlateSlabs();
        DUE.is("a fault at the end", Due.performed(x, "b0=9;d1=5;x"), -110);
        DUE.is("nothing is on", x.count(1), 0);
        DUE.is("nothing is put", x.count(5), 0);
        DUE.is("no act", x.count(9), 0);
        DUE.is("no stop", x.stopped(0), PlateSlabs.NONE);
    }

    private static void things() {
        PlateSlabs x = new PlateSlabs();
        DUE.is("b3=0", Due.performed(x, "b3=0"), 1);
        DUE.is("on", x.pair(3, 10), 1);
        DUE.is("voltage", x.pair(3, 9), 0);
        DUE.is("o3", Due.performed(x, "o3"), 1);
        DUE.is("off", x.pair(3, 10), 0);
        DUE.is("b0=30", Due.performed(x, "b0=30"), 1);
        DUE.is("voltage", x.pair(0, 9), 30);
        DUE.is("b0=9", Due.performed(x, "b0=9"), 1);
        DUE.is("voltage", x.pair(0, 9), 9);
        DUE.is("d1=40", Due.performed(x, "d1=40"), 1);
        DUE.is("depth", x.pair(1, 6), 40);
        DUE.is("d1=0", Due.performed(x, "d1=0"), 1);
        DUE.is("depth", x.pair(1, 6), 0);
        DUE.is("d1=19", Due.performed(x, "d1=19"), 1);
        DUE.is("depth", x.pair(1, 6), 19);
        DUE.is("o0;c02", Due.performed(x, "o0;c02"), 2);
        DUE.is("shared", x.pair(2, 8), 180);
        DUE.is("couplings", x.count(7), 1);
        DUE.is(".1", Due.performed(x, ".1"), 1);
        DUE.is("tick", x.count(0), 1);
        DUE.is("slabs move", x.count(8), 2);
        DUE.is(".99", Due.performed(x, ".99"), 1);
        DUE.is("tick", x.count(0), 100);
        DUE.is(".10", Due.performed(x, ".10"), 1);
        DUE.is("tick", x.count(0), 110);
        DUE.is("perform() again: the text stays", x.perform(), 1);
        DUE.is("tick", x.count(0), 120);
    }

    private static void mostThings() {
        PlateSlabs x = new PlateSlabs();
        DUE.is("20 things", Due.performed(x, ".1;.2;.3;.4;.5;.6;.7;.8;.9;.1;.2;.3;.4;.5;.6;.7;.8;.9;.1;.2"), 20);
        DUE.is("tick", x.count(0), 93);
        DUE.is("60 signs", Due.performed(x, "b0=30;b1=30;b2=30;b3=30;b0=29;b1=29;b2=29;b3=29;d0=9;b0=28;.3"), -160);
        DUE.is("60 signs", Due.performed(x, "b0=30;b1=30;b2=30;b3=30;b0=29;b1=29;b2=29;b3=29;d0=9;b0=28;"), -159);
        DUE.is("60 signs", Due.performed(x, "b0=30;b1=30;b2=30;b3=30;b0=29;b1=29;b2=29;b3=29;d0=9;b0=2;.4"), 11);
        DUE.is("length", x.count(10), 60);
    }

    private static void allOrNothing() {
        PlateSlabs x = new PlateSlabs();
        x.turnOn(1, 4);
        x.set(1, 2, 5);
        DUE.is("c00", Due.performed(x, "b0=9;d2=8;.7;o1;c00"), PlateSlabs.NOT_POSSIBLE);
        DUE.is("tick", x.count(0), 0);
        DUE.is("on", x.count(1), 1);
        DUE.is("charges", x.count(3), 160);
        DUE.is("depths", x.count(5), 0);
        DUE.is("steps", x.count(8), 0);
        DUE.is("given", x.book(0, 1), 0);
        DUE.is("no act", x.count(9), 2);
        DUE.is("stopped(0)", x.stopped(0), 4);
        DUE.is("stopped(1)", x.stopped(1), PlateSlabs.BAD_VALUE);
    }

    private static void stops() {
        PlateSlabs x = new PlateSlabs();
        DUE.is("stopped(-1)", x.stopped(-1), PlateSlabs.BAD_VALUE);
        DUE.is("stopped(2)", x.stopped(2), PlateSlabs.BAD_VALUE);
        DUE.is("stopped(0)", x.stopped(0), PlateSlabs.NONE);
        DUE.is("stopped(1)", x.stopped(1), PlateSlabs.NONE);
        DUE.is("c01 on", Due.performed(x, "b1=0;c01"), PlateSlabs.NOT_POSSIBLE);
        DUE.is("stopped(0)", x.stopped(0), 1);
        DUE.is("stopped(1)", x.stopped(1), PlateSlabs.NOT_POSSIBLE);
        DUE.is("a trial that is done", Due.performed(x, "d0=1"), 1);
        DUE.is("the latest stop stays", x.stopped(0), 1);
        DUE.is("a fault", Due.performed(x, "d"), -101);
        DUE.is("the latest stop stays", x.stopped(1), PlateSlabs.NOT_POSSIBLE);
        x.undo();
        DUE.is("undo() leaves the stop", x.stopped(0), 1);
        DUE.is("c33", Due.performed(x, "c33"), PlateSlabs.NOT_POSSIBLE);
        DUE.is("stopped(0)", x.stopped(0), 0);
        DUE.is("stopped(1)", x.stopped(1), PlateSlabs.BAD_VALUE);
        DUE.is("stopped(2)", x.stopped(2), PlateSlabs.BAD_VALUE);
        fullStop();
    }

    private static void fullStop() {
        PlateSlabs x = new PlateSlabs();
        for (int pair = 0; pair < 3; pair++) {
            x.set(pair, 0, 9);
            x.set(pair, 1, 9);
        }
        Due.performed(x, "d0=40;d1=40;d2=40;b0=30;b1=30;b2=30;o0;o1;o2");
        x.set(1, 0, 1);
        x.set(2, 0, 1);
        DUE.is("too much", Due.performed(x, "d1=0;d2=0;c01;c02"), PlateSlabs.NOT_POSSIBLE);
        DUE.is("stopped(0)", x.stopped(0), 3);
        DUE.is("stopped(1)", x.stopped(1), PlateSlabs.FULL);
        DUE.is("depths", x.count(5), 120);
        DUE.is("couplings", x.count(7), 0);
    }

    private static void noneDoesNotStop() {
        PlateSlabs x = new PlateSlabs();
        DUE.is("all NONE", Due.performed(x, "o0;d0=0;c01"), 3);
        DUE.is("recorded all the same", x.count(9), 1);
        DUE.is("no couplings", x.count(7), 0);
        DUE.is("no stop", x.stopped(0), PlateSlabs.NONE);
        DUE.is("NONE in between", Due.performed(x, "b0=5;b0=5;d1=3"), 3);
        DUE.is("charge", x.pair(0, 8), 200);
        DUE.is("depth", x.pair(1, 6), 3);
    }

    private static void oneAct() {
        PlateSlabs x = new PlateSlabs();
        DUE.is("six things", Due.performed(x, "b0=5;d1=3;o0;c01;.9;d2=2"), 6);
        DUE.is("one state", x.count(9), 1);
        DUE.is("undo()", x.undo(), 0);
        DUE.is("tick", x.count(0), 0);
        DUE.is("charges", x.count(3), 0);
        DUE.is("depths", x.count(5), 0);
        DUE.is("the text stays", x.count(10), 24);
    }
}
