/** The edges of TEXTS and of the promises 8 to 11: lengths, numbers, faults, stops. */
public final class TextsEdgesTest {
    private static final Due DUE = new Due("TextsEdgesTest");

    public static void main(String[] args) {
        atMost60();
        anyCharacter();
        clearTextOfEachLength();
        theEmptyText();
        firstCharacters();
        pairsOfThings();
        signsBehindPairs();
        numbersOfVoltages();
        numbersOfDepths();
        numbersOfTicks();
        zerosInFront();
        signsBehindNumbers();
        separators();
        prefixes();
        faultsAtEachPlace();
        theLongestTrials();
        mostThings();
        thingsAreDoneInOrder();
        couplingsOfTrials();
        theTextStays();
        allOrNothing();
        noneStopsNothing();
        firstStopIsTold();
        stopAtEachNumber();
        eachErrorStops();
        theLatestStop();
        noStopYet();
        DUE.end();
    }

    private static int performed(String text) {
        return Due.performed(new PlateSlabs(), text);
    }

    private static void fault(String text, int fault) {
        DUE.is("perform() of \"" + text + "\"", performed(text), -100 - fault);
    }

    private static void things(String text, int things) {
        DUE.is("perform() of \"" + text + "\"", performed(text), things);
    }

    /** "There is a text of at most 60 characters, empty at first." */
    private static void atMost60() {
        PlateSlabs x = new PlateSlabs();
        DUE.is("empty at first", x.count(10), 0);
        DUE.is("clearText() at first", x.clearText(), 0);
        for (int length = 1; length <= 60; length++) {
            DUE.is("type", x.type('.'), length);
            DUE.is("count(10)", x.count(10), length);
        }
        DUE.is("the character 61", x.type('.'), PlateSlabs.FULL);
        DUE.is("and again", x.type('9'), PlateSlabs.FULL);
        DUE.is("count(10)", x.count(10), 60);
        DUE.is("clearText()", x.clearText(), 60);
        DUE.is("type when it is empty again", x.type('9'), 1);
        DUE.is("nothing of it is an act", x.count(9), 0);
    }

    private static void anyCharacter() {
        PlateSlabs x = new PlateSlabs();
        int length = 0;
        for (char character : new char[] {0, 1, '\n', ' ', '~', 127, 128, 255, 256, 0x7fff, 0xd800, 0xdfff, 0xffff}) {
            length++;
            DUE.is("type of " + (int) character, x.type(character), length);
        }
        DUE.is("fault", x.perform(), -100);
        x.clearText();
        for (char character : "o1".toCharArray()) {
            x.type(character);
        }
        x.type((char) (';' + 256));
        DUE.is("only a part of it is a semicolon", x.perform(), -102);
        x.clearText();
        x.type((char) ('o' + 256));
        x.type('1');
        DUE.is("only a part of it is an o", x.perform(), -100);
        x.clearText();
        x.type('o');
        x.type((char) ('1' + 256));
        DUE.is("only a part of it is a 1", x.perform(), -101);
    }

    /** "Empties the text. Returns the length that it had." */
    private static void clearTextOfEachLength() {
        for (int length = 0; length <= 60; length++) {
            PlateSlabs x = new PlateSlabs();
            for (int i = 0; i < length; i++) {
                x.type('b');
            }
            DUE.is("clearText()", x.clearText(), length);
            DUE.is("clearText() again", x.clearText(), 0);
            DUE.is("count(10)", x.count(10), 0);
            DUE.is("perform() of nothing", x.perform(), -100);
        }
    }

    /** "or the length of the text if it ends too early (the empty text does)" */
    private static void theEmptyText() {
        PlateSlabs x = new PlateSlabs();
        DUE.is("perform() of a new one", x.perform(), -100);
        DUE.is("a trial", Due.performed(x, "o0"), 1);
        x.clearText();
        DUE.is("perform() of what was cleared", x.perform(), -100);
        x.type('o');
        DUE.is("nothing of the text before is read", x.perform(), -101);
    }

    /** A thing begins with one of five characters, at the beginning and behind ";". */
    private static void firstCharacters() {
        for (int code = 0; code < 0x10000; code += code < 512 ? 1 : 97) {
            char character = (char) code;
            boolean begins = "bodc.".indexOf(character) >= 0;
            DUE.is("first character " + code, performed("" + character), begins ? -101 : -100);
            DUE.is("behind a ; " + code, performed("o0;" + character), begins ? -104 : -103);
        }
    }

    /** "A pair is a digit from 0 to 3." */
    private static void pairsOfThings() {
        String[] front = {"b", "o", "d", "c", "c0", "c1", "c2", "c3"};
        String[] behind = {"=0", "", "=0", "0", "", "", "", ""};
        for (int i = 0; i < front.length; i++) {
            for (int code = 0; code < 256; code++) {
                String text = front[i] + (char) code + behind[i];
                boolean isPair = code >= '0' && code <= '3';
                if (!isPair) {
                    fault(text, front[i].length());
                } else if (front[i].charAt(0) != 'c') {
                    things(text, 1);
                } else {
                    boolean same = text.charAt(1) == text.charAt(2);
                    DUE.is(text, performed(text), same ? PlateSlabs.NOT_POSSIBLE : 1);
                }
            }
        }
    }

    private static void signsBehindPairs() {
        for (int code = 0; code < 256; code++) {
            char sign = (char) code;
            fault("b2" + sign, sign == '=' ? 3 : 2);
            fault("d2" + sign, sign == '=' ? 3 : 2);
            fault("o2" + sign, sign == ';' ? 3 : 2);
            fault("c23" + sign, sign == ';' ? 4 : 3);
        }
    }

    /** Each number of one to three digits: the fault is at the first digit that is not allowed. */
    private static void numbers(String front, int least, int greatest) {
        for (int digits = 1; digits <= 3; digits++) {
            int end = digits == 1 ? 10 : digits == 2 ? 100 : 1000;
            for (int number = 0; number < end; number++) {
                String text = "" + (end + number);
                text = text.substring(1);
                int fault = faultOfNumber(text, least, greatest);
                if (fault < 0) {
                    things(front + text, 1);
                } else {
                    fault(front + text, front.length() + fault);
                }
            }
        }
    }

    private static int faultOfNumber(String digits, int least, int greatest) {
        if (digits.charAt(0) == '0') {
            return least > 0 ? 0 : digits.length() > 1 ? 1 : -1;
        }
        for (int length = 1; length <= digits.length(); length++) {
            if (Integer.parseInt(digits.substring(0, length)) > greatest) {
                return length - 1;
            }
        }
        return -1;
    }

    /** "a voltage (0 to 30: its battery has this voltage, and is on)" */
    private static void numbersOfVoltages() {
        numbers("b1=", 0, 30);
        for (int voltage = 0; voltage <= 30; voltage++) {
            PlateSlabs x = new PlateSlabs();
            DUE.is("b1=" + voltage, Due.performed(x, "b1=" + voltage), 1);
            DUE.is("voltage", x.pair(1, 9), voltage);
            DUE.is("on", x.pair(1, 10), 1);
            DUE.is("charge", x.pair(1, 8), 40 * voltage);
            DUE.is("the others are off", x.count(1), 1);
        }
        fault("b1=31", 4);
        fault("b1=310", 4);
        fault("b1=40", 4);
        fault("b1=300", 5);
        fault("b1=-1", 3);
        fault("b1=+1", 3);
        fault("b1= 1", 3);
    }

    /** "a depth (0 to 40: the slab is put there)" */
    private static void numbersOfDepths() {
        numbers("d2=", 0, 40);
        for (int depth = 0; depth <= 40; depth++) {
            PlateSlabs x = new PlateSlabs();
            x.put(2, 20);
            DUE.is("d2=" + depth, Due.performed(x, "d2=" + depth), 1);
            DUE.is("depth", x.pair(2, 6), depth);
            DUE.is("depths of all", x.count(5), depth);
        }
        fault("d2=41", 4);
        fault("d2=50", 4);
        fault("d2=400", 5);
        fault("d2=-1", 3);
    }

    /** "ticks (1 to 99: they pass)" */
    private static void numbersOfTicks() {
        numbers(".", 1, 99);
        for (int ticks = 1; ticks <= 99; ticks++) {
            PlateSlabs x = new PlateSlabs();
            DUE.is("." + ticks, Due.performed(x, "." + ticks), 1);
            DUE.is("tick", x.count(0), ticks);
        }
        fault(".0", 1);
        fault(".00", 1);
        fault(".01", 1);
        fault(".100", 3);
        fault(".999", 3);
        fault(".-1", 1);
    }

    /** "Numbers have no zero in front, unless they are the single digit 0" */
    private static void zerosInFront() {
        for (int digit = 0; digit <= 9; digit++) {
            fault("b0=0" + digit, 4);
            fault("d0=0" + digit, 4);
            fault(".0" + digit, 1);
        }
        things("b0=0", 1);
        things("d0=0", 1);
        things("b0=0;d0=0", 2);
        things("b0=10;b0=20;b0=30;d0=10;d0=20;d0=30;d0=40", 7);
        things(".10;.20;.90", 3);
        fault("b0=00", 4);
        fault("d0=00;", 4);
    }

    /** A number is of digits alone: no other sign stands for one of them, nor for what may stand behind it. */
    private static void signsBehindNumbers() {
        String[] numbers = {"b0=0", "b0=1", "b0=2", "b0=3", "b0=9", "b0=10", "b0=30", "d0=0", "d0=1", "d0=2", "d0=3",
            "d0=4", "d0=9", "d0=29", "d0=40", ".1", ".2", ".8", ".9", ".10", ".99"};
        for (int code = 0; code < 256; code++) {
            char sign = (char) code;
            if (sign >= '0' && sign <= '9') {
                continue;
            }
            for (String front : new String[] {"b0=", "d0=", "."}) {
                fault(front + sign, front.length());
                fault(front + sign + "1", front.length());
            }
            for (String number : numbers) {
                fault(number + sign, number.length() + (sign == ';' ? 1 : 0));
            }
        }
        fault("b0=", 3);
        fault("d0=", 3);
        fault(".", 1);
    }

    /** "one or more of these with ";" between two" */
    private static void separators() {
        fault(";", 0);
        fault(";o0", 0);
        fault("o0;", 3);
        fault("o0;;", 3);
        fault("o0;;o0", 3);
        fault("o0 ;o0", 2);
        fault("o0; o0", 3);
        fault("o0o0", 2);
        fault("o0,o0", 2);
        fault("c01o0", 3);
        fault(".9o0", 2);
        things("o0", 1);
        things("o0;o0", 2);
        things("o0;b1=1;d1=1;c02;.1", 5);
    }

    /** Each beginning of a trial is a trial, or ends too early. */
    private static void prefixes() {
        String whole = "b0=30;b1=7;o0;o1;d0=40;d1=8;d2=0;c01;c10;c23;.5;.55;.99;b2=0";
        String trials = "0123456789";
        for (int length = 0; length <= 60; length++) {
            String text = whole.substring(0, length);
            String last = text.substring(text.lastIndexOf(';') + 1);
            boolean ends = !last.isEmpty() && trials.indexOf(last.charAt(last.length() - 1)) >= 0
                && last.length() >= (last.charAt(0) == '.' || last.charAt(0) == 'o' ? 2 : last.charAt(0) == 'c' ? 3 : 4);
            if (ends) {
                things(text, text.split(";").length);
            } else {
                fault(text, length);
            }
        }
    }

    /** A character that is nowhere allowed: the fault is where it stands. */
    private static void faultsAtEachPlace() {
        String whole = "b0=30;b1=7;o0;o1;d0=40;d1=8;d2=0;c01;c10;c23;.5;.55;.99;.88;";
        for (int at = 0; at < 60; at++) {
            for (char sign : new char[] {'x', ' ', 'B', 0, 200, 0x2003}) {
                fault(whole.substring(0, at) + sign + whole.substring(at + 1), at);
            }
            fault(whole.substring(0, at) + "x", at);
        }
    }

    private static void theLongestTrials() {
        things("b0=30;b1=30;b2=30;b3=30;d0=40;d1=40;d2=40;d3=40;o0;o1;o2;.20", 12);
        things(".99;.99;.99;.99;.99;.99;.99;.99;.99;.99;.99;.99;.99;.99;.99", 15);
        fault("b0=30;b1=30;b2=30;b3=30;d0=40;d1=40;d2=40;d3=40;o0;o1;o2;.2;", 60);
        fault("b0=30;b1=30;b2=30;b3=30;d0=40;d1=40;d2=40;d3=40;o0;o1;o2;.2x", 59);
        fault("b0=30;b1=30;b2=30;b3=30;d0=40;d1=40;d2=40;d3=40;o0;o1;o2;b20", 59);
        fault("b0=30;b1=30;b2=30;b3=30;d0=40;d1=40;d2=40;d3=40;o0;o1;o2;b2=", 60);
        PlateSlabs x = new PlateSlabs();
        Due.write(x, "b0=30;b1=30;b2=30;b3=30;d0=40;d1=40;d2=40;d3=40;o0;o1;o2;.20");
        DUE.is("a digit behind the end", x.type('0'), PlateSlabs.FULL);
        DUE.is("is not read", x.perform(), 12);
        DUE.is("20 ticks", x.count(0), 20);
    }

    /** "Returns how many things the trial has": from 1 to 20, as 60 characters have room for no more */
    private static void mostThings() {
        StringBuilder text = new StringBuilder(".1");
        for (int count = 1; count <= 20; count++) {
            PlateSlabs x = new PlateSlabs();
            DUE.is(count + " things", Due.performed(x, text.toString()), count);
            DUE.is(count + " ticks", x.count(0), count);
            DUE.is("one act", x.count(9), 1);
            fault(text + ";", text.length() + 1);
            text.append(";.1");
        }
        fault(text.substring(0, 60), 60);
    }

    /** "Does all that the trial of the text tells, one after the other" */
    private static void thingsAreDoneInOrder() {
        PlateSlabs x = new PlateSlabs();
        DUE.is("perform()", Due.performed(x, "b0=10;.1;d0=5;o0;d0=0;c01;.1;b0=2"), 8);
        DUE.is("charge of 0", x.pair(0, 8), 82);
        DUE.is("charge of 1", x.pair(1, 8), 225);
        DUE.is("depth of 0", x.pair(0, 6), 1);
        DUE.is("depth of 1", x.pair(1, 6), 1);
        DUE.is("given by 0", x.book(0, 1), 20 * 450 + 4 * (82 - 225));
        DUE.is("steps", x.count(8), 3);
        DUE.is("couplings", x.count(7), 1);
        DUE.is("tick", x.count(0), 2);
        DUE.is("as single calls", singleCalls(), 82);
    }

    private static int singleCalls() {
        PlateSlabs x = new PlateSlabs();
        x.turnOn(0, 10);
        x.pass(1);
        x.put(0, 5);
        x.turnOff(0);
        x.put(0, 0);
        x.couple(0, 1);
        x.pass(1);
        return x.turnOn(0, 2);
    }

    /** "c", a pair and a pair (they are coupled)": the first of them is the first one of couple() */
    private static void couplingsOfTrials() {
        for (int first = 0; first < 4; first++) {
            for (int other = 0; other < 4; other++) {
                if (first == other) {
                    continue;
                }
                PlateSlabs x = new PlateSlabs();
                Made.smallCharge(x, first, 41);
                String text = "c" + first + other;
                DUE.is(text, Due.performed(x, text), 1);
                DUE.is(text + ": the first is rounded down", x.pair(first, 8), 20);
                DUE.is(text + ": the other gets the rest", x.pair(other, 8), 21);
                DUE.is(text + ": sparks of the first", x.book(first, 3), 10);
                DUE.is(text + ": sparks of the other", x.book(other, 3), 11);
                DUE.is(text + ": couplings", x.count(7), 1);
            }
        }
    }

    private static void theTextStays() {
        PlateSlabs x = new PlateSlabs();
        Due.write(x, "d0=7;.3");
        DUE.is("perform()", x.perform(), 2);
        DUE.is("length", x.count(10), 7);
        DUE.is("perform() again", x.perform(), 2);
        DUE.is("tick", x.count(0), 6);
        DUE.is("type behind it", x.type('3'), 8);
        DUE.is("perform()", x.perform(), 2);
        DUE.is("tick", x.count(0), 39);
        DUE.is("type behind it", x.type('3'), 9);
        DUE.is("fault", x.perform(), -108);
        DUE.is("the faulty text stays", x.count(10), 9);
        DUE.is("acts", x.count(9), 3);
        DUE.is("a stopped text", Due.performed(x, "d1=9;c00"), PlateSlabs.NOT_POSSIBLE);
        DUE.is("stays", x.clearText(), 8);
    }

    /** "all of it, or nothing" */
    private static void allOrNothing() {
        PlateSlabs x = Made.rich();
        long[] before = Sight.ofAll(x);
        String text = "b0=30;b1=3;d3=2;.50;o0;o1;o2;o3;c01;c23;d1=40;c11";
        // The length of the text is told last.
        before[before.length - 1] = text.length();
        DUE.is("the last thing is stopped", Due.performed(x, text), PlateSlabs.NOT_POSSIBLE);
        DUE.same("nothing is done", Sight.ofAll(x), before);
        DUE.is("number", x.stopped(0), 11);
        DUE.is("all of it", Due.performed(x, "b0=30;b1=3;d3=2;.50;o0;o1;o2;o3;c01;c23;d1=40;c12"), 12);
        DUE.is("one act", x.count(9), 4);
        DUE.is("couplings", x.count(7), 4);
        nothingOfAllThatAStateIs();
    }

    /** Each number that a trial can change was changed when it is stopped. */
    private static void nothingOfAllThatAStateIs() {
        PlateSlabs x = Made.leaking();
        long[] before = Sight.ofState(x);
        DUE.is("stopped at the end", Due.performed(x, Made.ALL_OF_A_STATE + ";c11"), PlateSlabs.NOT_POSSIBLE);
        DUE.is("number", x.stopped(0), 12);
        DUE.same("nothing is done", Sight.ofState(x), before);
        DUE.is("not stopped", Due.performed(x, Made.ALL_OF_A_STATE), 12);
        DUE.is("numbers that are changed", Sight.numbersThatDiffer(before, Sight.ofState(x)), 4 * 7 + 3);
    }

    /** "What would return NONE does not stop it" */
    private static void noneStopsNothing() {
        PlateSlabs x = new PlateSlabs();
        DUE.is("all NONE", Due.performed(x, "o0;o1;d0=0;c01;c23"), 5);
        DUE.is("it is an act", x.count(9), 1);
        DUE.is("couplings", x.count(7), 0);
        DUE.is("no stop", x.stopped(0), PlateSlabs.NONE);
        DUE.is("once and again", Due.performed(x, "b0=3;b0=3;d0=4;d0=4;o0;o0;c01;c01;.1"), 9);
        DUE.is("couplings", x.count(7), 1);
        DUE.is("tick", x.count(0), 1);
        DUE.is("undo()", x.undo(), 1);
        DUE.is("off", x.pair(0, 8), 0);
    }

    /** "What would return an error stops it": the first one does */
    private static void firstStopIsTold() {
        PlateSlabs x = new PlateSlabs();
        DUE.is("three errors", Due.performed(x, "b0=1;c01;c11;c00"), PlateSlabs.NOT_POSSIBLE);
        DUE.is("number", x.stopped(0), 1);
        DUE.is("error", x.stopped(1), PlateSlabs.NOT_POSSIBLE);
        DUE.is("two errors", Due.performed(x, "c11;b0=1;c01"), PlateSlabs.NOT_POSSIBLE);
        DUE.is("number", x.stopped(0), 0);
        DUE.is("error", x.stopped(1), PlateSlabs.BAD_VALUE);
    }

    /** "0 for its number in the trial, from 0": up to 19 */
    private static void stopAtEachNumber() {
        StringBuilder text = new StringBuilder();
        for (int number = 0; number < 20; number++) {
            PlateSlabs x = new PlateSlabs();
            DUE.is("stop at " + number, Due.performed(x, text + "c22"), PlateSlabs.NOT_POSSIBLE);
            DUE.is("stopped(0)", x.stopped(0), number);
            DUE.is("stopped(1)", x.stopped(1), PlateSlabs.BAD_VALUE);
            DUE.is("no tick", x.count(0), 0);
            DUE.is("no act", x.count(9), 0);
            text.append(".1;");
        }
    }

    private static void eachErrorStops() {
        PlateSlabs x = Made.nearlyFull();
        Made.refill(x, 1, 6, 39, 27);
        DUE.is("BAD_VALUE", Due.performed(x, "c33"), PlateSlabs.NOT_POSSIBLE);
        DUE.is("stopped(1)", x.stopped(1), PlateSlabs.BAD_VALUE);
        DUE.is("FULL of a charge", Due.performed(x, "d3=1;c01"), PlateSlabs.NOT_POSSIBLE);
        DUE.is("stopped(0)", x.stopped(0), 1);
        DUE.is("stopped(1)", x.stopped(1), PlateSlabs.FULL);
        DUE.is("NOT_POSSIBLE", Due.performed(x, "b2=0;b3=0;c32"), PlateSlabs.NOT_POSSIBLE);
        DUE.is("stopped(0)", x.stopped(0), 2);
        DUE.is("stopped(1)", x.stopped(1), PlateSlabs.NOT_POSSIBLE);
        PlateSlabs y = Made.late(99950);
        DUE.is("ticks to 99999", Due.performed(y, ".48;.1"), 2);
        y.undo();
        DUE.is("FULL of ticks", Due.performed(y, ".48;.2"), PlateSlabs.NOT_POSSIBLE);
        DUE.is("stopped(0)", y.stopped(0), 1);
        DUE.is("stopped(1)", y.stopped(1), PlateSlabs.FULL);
    }

    /** "Tells of the latest stop of perform()" */
    private static void theLatestStop() {
        PlateSlabs x = new PlateSlabs();
        x.keep();
        Due.performed(x, "o0;o1;c33");
        Call[] calls = {y -> Due.performed(y, "d0=1"), y -> Due.performed(y, "d0=1;"), y -> y.undo(), y -> y.restore(),
            y -> y.keep(), y -> y.couple(0, 0), y -> y.pass(100), y -> y.clearText(), y -> y.perform(),
            y -> y.stopped(2)};
        for (int i = 0; i < calls.length; i++) {
            calls[i].on(x);
            DUE.is("stopped(0) behind call " + i, x.stopped(0), 2);
            DUE.is("stopped(1) behind call " + i, x.stopped(1), PlateSlabs.BAD_VALUE);
        }
        Due.performed(x, "b0=1;c01");
        DUE.is("a later stop", x.stopped(0), 1);
        DUE.is("a later error", x.stopped(1), PlateSlabs.NOT_POSSIBLE);
        Due.performed(x, "c22");
        DUE.is("number 0", x.stopped(0), 0);
        DUE.is("its error", x.stopped(1), PlateSlabs.BAD_VALUE);
    }

    /** "NONE if nothing was stopped yet": a fault stops nothing, nor does an error of another call */
    private static void noStopYet() {
        PlateSlabs x = new PlateSlabs();
        Call[] calls = {y -> y.perform(), y -> Due.performed(y, "c00;"), y -> Due.performed(y, "x"),
            y -> Due.performed(y, "o0;c01"), y -> y.couple(0, 0), y -> y.pass(0), y -> y.undo(), y -> y.restore(),
            y -> y.stopped(2)};
        for (int i = 0; i < calls.length; i++) {
            calls[i].on(x);
            DUE.is("stopped(0) behind call " + i, x.stopped(0), PlateSlabs.NONE);
            DUE.is("stopped(1) behind call " + i, x.stopped(1), PlateSlabs.NONE);
        }
    }
}
