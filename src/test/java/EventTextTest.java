/** Promises 24 to 27: append, clearText, firstError, run. */
public final class EventTextTest {
    public static void main(String[] args) {
        append();
        appendRefused();
        clearText();
        firstErrors();
        runEvents();
        runStops();
        runRefused();
        runFullBuffer();
        runUndone();
        Check.end("EventTextTest");
    }

    private static void append() {
        ConcertUsher x = new ConcertUsher();
        Check.due("append(33)", x.append(33), 1);
        Check.due("append(126)", x.append(126), 2);
        Check.due("append saves nothing", x.savedStates(), 0);
        Check.due("clearText()", x.clearText(), 2);
        for (int n = 1; n <= 60; n++) {
            Check.due("append('c')", x.append('c'), n);
        }
        Check.refused(x, "append to a full buffer", IllegalStateException.class, () -> x.append('c'));
        Check.refused(x, "append of a wrong code to a full buffer", IllegalArgumentException.class, () -> x.append(32));
        Check.due("clearText() of a full buffer", x.clearText(), 60);
    }

    private static void appendRefused() {
        ConcertUsher x = new ConcertUsher();
        x.append('p');
        int[] wrong = {32, 127, 0, -1, 'c' + 65536, Integer.MIN_VALUE, Integer.MAX_VALUE};
        for (int code : wrong) {
            Check.refused(x, "append(" + code + ")", IllegalArgumentException.class, () -> x.append(code));
        }
        Check.due("clearText() after refused calls", x.clearText(), 1);
    }

    private static void clearText() {
        ConcertUsher x = new ConcertUsher();
        Check.due("clearText() of nothing", x.clearText(), 0);
        Check.write(x, "t59");
        Check.due("clearText()", x.clearText(), 3);
        Check.write(x, "t5");
        Check.due("an older text is gone", x.run(), 1);
        Check.due("minutes() of t5", x.minutes(), 5);
        Check.due("clearText() after run", x.clearText(), 0);
        Check.due("clearText saves nothing", x.savedStates(), 1);
    }

    private static void firstErrors() {
        String[] right = {"", "c", "c0", "c75", "l05", "s70", "c00;", "p", "p0", "p5", "t", "t1", "t9", "t6", "t60",
            "t10", "t59", "t6;", "t60;", "t1;t2", "o", "o0", "o7", "o7;o7;", "c00;l00;s00;p0;t10;o0"};
        for (String text : right) {
            firstError(text, text.length());
        }
        firstError(";", 0);
        firstError("x", 0);
        firstError("C00", 0);
        firstError("0", 0);
        firstError("c8", 1);
        firstError("c/", 1);
        firstError("c:", 1);
        firstError("c;", 1);
        firstError("c06", 2);
        firstError("c0/", 2);
        firstError("c000", 3);
        firstError("c00l", 3);
        firstError("l9", 1);
        firstError("s0;", 2);
        firstError("p6", 1);
        firstError("p/", 1);
        firstError("p00", 2);
        firstError("t0", 1);
        firstError("t;", 1);
        firstError("t/", 1);
        firstError("t:", 1);
        firstError("t1/", 2);
        firstError("t1:", 2);
        firstError("t61", 2);
        firstError("t6/", 2);
        firstError("t70", 2);
        firstError("t90", 2);
        firstError("t600", 3);
        firstError("t100", 3);
        firstError("o8", 1);
        firstError("o/", 1);
        firstError("o;", 1);
        firstError("o00", 2);
        firstError("c00;;", 4);
        firstError("c00,c00", 3);
        firstError("c00;x;y", 4);
        for (char letter = 33; letter < 127; letter++) {
            firstError(String.valueOf(letter), "clspto".indexOf(letter) >= 0 ? 1 : 0);
        }
    }

    private static void firstError(String text, int want) {
        ConcertUsher x = new ConcertUsher();
        Check.write(x, text);
        Check.due("firstError() of " + text, x.firstError(), want);
        Check.due("firstError() of " + text + " again", x.firstError(), want);
        Check.due("clearText() of " + text, x.clearText(), text.length());
    }

    private static void runEvents() {
        ConcertUsher x = new ConcertUsher();
        Check.due("run() of one event", Check.runText(x, "c75"), 1);
        Check.due("listeners(7, 5)", x.listeners(7, 5), 1);
        Check.due("run() of a mix", Check.runText(x, "c02;c02;s02;o3;p2;t12;l02"), 7);
        Check.due("count(0)", x.count(0), 1);
        Check.due("count(1)", x.count(1), 1);
        Check.due("count(4): the farewell", x.count(4), 1);
        Check.due("rest(0, 2)", x.rest(0, 2), 3);
        Check.due("minutes()", x.minutes(), 12);
        Check.due("isOpen(3)", x.isOpen(3), true);
        Check.due("run() that closes", Check.runText(x, "o3;o4"), 2);
        Check.due("isOpen(3) after it", x.isOpen(3), false);
        Check.due("isOpen(4) after it", x.isOpen(4), true);
        Check.due("run() of silent leaving", Check.runText(x, "s75"), 1);
        Check.due("rest(7, 5) after silent leaving", x.rest(7, 5), 18);
        Check.due("run() of times", Check.runText(x, "t1;t60;t6;t9;t10"), 5);
        Check.due("minutes() of times", x.minutes(), 98);
        Check.due("the buffer is empty after run", x.clearText(), 0);
        Check.due("run() of a farewell", Check.runText(x, "c64;l64"), 2);
        Check.due("rest(6, 4) after a farewell", x.rest(6, 4), 3);
        x.setQuick(true);
        Check.due("run() of a quick usher", Check.runText(x, "c10;l10"), 2);
        Check.due("rest(1, 0) of a quick usher", x.rest(1, 0), 0);
    }

    private static void runStops() {
        ConcertUsher x = new ConcertUsher();
        Check.due("run() that stops at once", Check.runText(x, "l00;c00"), 0);
        Check.due("run() that stops at once saves a state", x.savedStates(), 1);
        Check.due("run() that stops at once empties the buffer", x.clearText(), 0);
        Check.due("listeners(0, 0)", x.listeners(0, 0), 0);
        Check.due("run() that stops at silent leaving", Check.runText(x, "t1;s00;t1"), 1);
        Check.due("minutes()", x.minutes(), 1);
        Check.due("run() that stops at the tenth", Check.runText(x,
            "c00;c00;c00;c00;c00;c00;c00;c00;c00;c00;l00"), 9);
        Check.due("listeners(0, 0)", x.listeners(0, 0), 9);
        Check.due("count(5): the tenth does not call", x.count(5), 9);
    }

    private static void runRefused() {
        String[] wrong = {"", "c", "c0", "c00;", "p", "t", "t0", "t61", "t60;", "o", "x", "p6", "c00;x", ";c00"};
        for (String text : wrong) {
            ConcertUsher x = new ConcertUsher();
            x.come(5, 5);
            Check.write(x, text);
            Check.refused(x, "run() of " + text, IllegalArgumentException.class, () -> x.run());
            Check.due("the buffer stays", x.clearText(), text.length());
        }
    }

    private static void runFullBuffer() {
        ConcertUsher x = new ConcertUsher();
        String full = "t10;t10;t10;t10;t10;t10;t10;t10;t10;t10;t10;t10;t10;t10;p0;t";
        Check.due("the length of the text", full.length(), 60);
        Check.write(x, full);
        Check.refused(x, "run() of 60 characters, not complete", IllegalArgumentException.class, () -> x.run());
        x.clearText();
        full = "t10;t10;t10;t10;t10;t10;t10;t10;t10;t10;t10;t10;t10;t1;t1;t6";
        Check.due("the length of the text", full.length(), 60);
        Check.due("run() of 60 characters", Check.runText(x, full), 16);
        Check.due("minutes()", x.minutes(), 138);
        Check.write(x, full.substring(0, 59) + "x");
        Check.due("firstError() at the last of 60 characters", x.firstError(), 59);
    }

    private static void runUndone() {
        ConcertUsher x = new ConcertUsher();
        x.come(0, 0);
        Check.undoable(x, "run()", () -> Check.runText(x, "c11;o2;t7;p1"));
        Check.undoable(x, "run() of no event", () -> Check.runText(x, "l55"));
        Check.runText(x, "t7");
        Check.write(x, "p3");
        x.undo();
        Check.due("undo leaves the buffer", x.clearText(), 2);
    }
}
