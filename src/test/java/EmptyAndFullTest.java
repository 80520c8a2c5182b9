/** Nothing there, everything full, and one more than that: listeners, entries, open rows, saved states, the buffer. */
public final class EmptyAndFullTest {
    public static void main(String[] args) {
        noListener();
        nineListeners();
        nineListenersAreOneCaller();
        noEntry();
        anEntryThatFadesInThisMinute();
        allEntries();
        allRowsOpen();
        noSavedState();
        oneSavedState();
        sixSavedStates();
        aSeventhSavedState();
        anyNumberOfSavedStates();
        savingAgainAfterUndo();
        emptyBuffer();
        oneCharacter();
        fullBuffer();
        fullBufferOfEvents();
        fiveHundredAndTwelveCalls();
        Check.end("EmptyAndFullTest");
    }

    private static void noListener() {
        ConcertUsher x = new ConcertUsher();
        Check.due("wanted(0) of nobody", x.wanted(0), 0);
        Check.due("play(0) to nobody", x.play(0), 0);
        Check.due("pass(10) with nobody there", x.pass(10), 1);
        Check.due("count(5) with nobody there", x.count(5), 0);
        Check.due("entries() with nobody there", x.entries(), 0);
        Check.due("come(0, 0) as the first", x.come(0, 0), 1);
        Check.due("leave(0, 0, false) as the last", x.leave(0, 0, false), 0);
        Check.due("listeners(0, 0)", x.listeners(0, 0), 0);
        Check.due("wanted(0) when the last has left", x.wanted(0), 0);
        Check.due("come(0, 0) as the first again", x.come(0, 0), 1);
    }

    /** "For each row and concert there is a number of listeners from 0 to 9": nine in one place leave room in others. */
    private static void nineListeners() {
        ConcertUsher x = new ConcertUsher();
        for (int n = 1; n <= 9; n++) {
            Check.due("come(0, 5) number " + n, x.come(0, 5), n);
        }
        Check.due("come(0, 4) beside nine", x.come(0, 4), 1);
        Check.due("come(1, 0) beside nine", x.come(1, 0), 1);
        Check.due("come(1, 5) beside nine", x.come(1, 5), 1);
        x.pass(4);
        Check.refused(x, "come(0, 5) a tenth time", IllegalStateException.class, () -> x.come(0, 5));
        Check.due("rest(0, 5): the tenth does not call", x.rest(0, 5), 16);
        Check.due("leave(0, 5, false) of nine", x.leave(0, 5, false), 8);
        Check.due("come(0, 5) to eight", x.come(0, 5), 9);
        Check.due("rest(0, 5): the ninth calls", x.rest(0, 5), 20);
        for (int left = 8; left >= 0; left--) {
            Check.due("leave(0, 5, true) to " + left, x.leave(0, 5, true), left);
        }
        Check.refused(x, "leave(0, 5, true) of nobody", IllegalStateException.class, () -> x.leave(0, 5, true));
    }

    /** "One of them calls", "a row that gets it is served". */
    private static void nineListenersAreOneCaller() {
        ConcertUsher x = new ConcertUsher();
        for (int n = 1; n <= 9; n++) {
            x.come(4, 4);
        }
        x.pass(10);
        Check.due("count(5): one of nine answers a general question", x.count(5), 10);
        x.leave(4, 4, true);
        Check.due("count(5): one of eight answers a question", x.count(5), 11);
        x.play(4);
        Check.due("count(0): a row is served once", x.count(0), 1);
        Check.due("entries(): nine have one entry", x.entries(), 1);
    }

    private static void noEntry() {
        ConcertUsher x = new ConcertUsher();
        Check.due("entries() without entry", x.entries(), 0);
        Check.due("rest(0, 0) without entry", x.rest(0, 0), 0);
        Check.due("minutesToFade(0, 0) without entry", x.minutesToFade(0, 0), 0);
        Check.due("rows(0) without entry", x.rows(0), 0);
        Check.due("disturbedAfter(0, 1) without entry", x.disturbedAfter(0, 1), 0);
        x.setTimes(2, 1, 30);
        x.come(0, 0);
        x.pass(2);
        Check.due("rest(0, 0) faded with a listener there", x.rest(0, 0), 0);
        Check.due("minutesToFade(0, 0) faded with a listener there", x.minutesToFade(0, 0), 0);
        Check.due("leave(0, 0, true) without entry", x.leave(0, 0, true), 0);
        Check.due("entries(): a farewell makes none", x.entries(), 0);
        Check.due("count(4): no question without entry", x.count(4), 0);
    }

    /** "Its rest decreases by 1; if it is 0 then, the entry is removed." */
    private static void anEntryThatFadesInThisMinute() {
        ConcertUsher x = new ConcertUsher();
        x.come(7, 5);
        x.leave(7, 5, false);
        x.pass(18);
        Check.due("rest(7, 5) two minutes before", x.rest(7, 5), 2);
        Check.due("disturbedAfter(5, 1) two minutes before", x.disturbedAfter(5, 1), 1);
        Check.due("disturbedAfter(5, 2) two minutes before", x.disturbedAfter(5, 2), 0);
        x.pass(1);
        Check.due("rest(7, 5) in its last minute", x.rest(7, 5), 1);
        Check.due("entries() in its last minute", x.entries(), 1);
        Check.due("rows(5) in its last minute", x.rows(5), 128);
        Check.due("minutesToFade(7, 5) in its last minute", x.minutesToFade(7, 5), 1);
        Check.due("disturbedAfter(5, 1) in its last minute", x.disturbedAfter(5, 1), 0);
        Check.due("play(5) in its last minute", x.play(5), 1);
        Check.due("count(1) in its last minute", x.count(1), 1);
        x.pass(1);
        Check.due("rest(7, 5) when it has faded", x.rest(7, 5), 0);
        Check.due("entries() when it has faded", x.entries(), 0);
        Check.due("rows(5) when it has faded", x.rows(5), 0);
        Check.due("minutesToFade(7, 5) when it has faded", x.minutesToFade(7, 5), 0);
        Check.due("play(5) when it has faded", x.play(5), 0);
        x.pass(1);
        Check.due("rest(7, 5) stays 0", x.rest(7, 5), 0);
        Check.due("entries() stays 0", x.entries(), 0);
    }

    private static void allEntries() {
        ConcertUsher x = new ConcertUsher();
        for (int row = 0; row < 8; row++) {
            for (int concert = 0; concert < 6; concert++) {
                Check.due("entries()", x.entries(), 6 * row + concert);
                x.come(row, concert);
            }
        }
        Check.due("entries() in all places", x.entries(), 48);
        x.pass(10);
        Check.due("count(5): all places answer a general question", x.count(5), 96);
        for (int concert = 0; concert < 6; concert++) {
            Check.due("rows(" + concert + ") of all", x.rows(concert), 255);
            Check.due("wanted(" + concert + ") of all", x.wanted(concert), 255);
            Check.due("play(" + concert + ") to all", x.play(concert), 8);
        }
        Check.due("count(0): all are served", x.count(0), 48);
        Check.dueShare("usefulShare() when all are served", x.usefulShare(), 1.0);
        x.setTimes(20, 3, 30);
        x.pass(20);
        Check.due("entries() when all have faded", x.entries(), 0);
        for (int concert = 0; concert < 6; concert++) {
            Check.due("play(" + concert + ") to none", x.play(concert), 0);
        }
        Check.due("count(2): all have missed it", x.count(2), 48);
    }

    private static void allRowsOpen() {
        ConcertUsher x = new ConcertUsher();
        for (int row = 0; row < 8; row++) {
            x.setOpen(row, true);
        }
        for (int concert = 0; concert < 6; concert++) {
            Check.due("rows(" + concert + ") when all are open", x.rows(concert), 255);
            Check.due("disturbedAfter(" + concert + ", 60) when all are open", x.disturbedAfter(concert, 60), 8);
            Check.due("play(" + concert + ") when all are open", x.play(concert), 8);
        }
        Check.due("count(1) when all are open", x.count(1), 48);
        Check.dueShare("usefulShare() when all are disturbed", x.usefulShare(), 0.0);
        Check.due("entries() when all are open", x.entries(), 0);
        for (int row = 0; row < 8; row++) {
            x.setOpen(row, false);
        }
        Check.due("rows(0) when none is open", x.rows(0), 0);
    }

    private static void noSavedState() {
        ConcertUsher x = new ConcertUsher();
        Check.due("savedStates() at first", x.savedStates(), 0);
        Check.refused(x, "undo() at first", IllegalStateException.class, () -> x.undo());
        Check.due("savedStates() after refused undo", x.savedStates(), 0);
    }

    private static void oneSavedState() {
        ConcertUsher x = new ConcertUsher();
        x.pass(5);
        Check.due("savedStates() of one", x.savedStates(), 1);
        Check.due("undo() of one", x.undo(), 0);
        Check.due("minutes() after undo of one", x.minutes(), 0);
        Check.refused(x, "undo() of none left", IllegalStateException.class, () -> x.undo());
    }

    private static void sixSavedStates() {
        ConcertUsher x = new ConcertUsher();
        for (int n = 1; n <= 6; n++) {
            x.pass(n);
            Check.due("savedStates() of " + n, x.savedStates(), n);
        }
        int[] minutes = {15, 10, 6, 3, 1, 0};
        for (int n = 0; n < 6; n++) {
            Check.due("undo() of six", x.undo(), 5 - n);
            Check.due("minutes() after " + (n + 1) + " undos of six", x.minutes(), minutes[n]);
        }
        Check.refused(x, "undo() a seventh time", IllegalStateException.class, () -> x.undo());
    }

    /** "When one more is saved, the oldest one is discarded." */
    private static void aSeventhSavedState() {
        ConcertUsher x = new ConcertUsher();
        for (int n = 1; n <= 7; n++) {
            x.pass(n);
        }
        Check.due("savedStates() of seven", x.savedStates(), 6);
        int[] minutes = {21, 15, 10, 6, 3, 1};
        for (int n = 0; n < 6; n++) {
            Check.due("undo() of seven", x.undo(), 5 - n);
            Check.due("minutes() after " + (n + 1) + " undos of seven", x.minutes(), minutes[n]);
        }
        Check.refused(x, "undo() of the discarded state", IllegalStateException.class, () -> x.undo());
        Check.due("minutes() without the oldest state", x.minutes(), 1);
    }

    private static void anyNumberOfSavedStates() {
        for (int calls = 0; calls <= 25; calls++) {
            ConcertUsher x = new ConcertUsher();
            for (int n = 0; n < calls; n++) {
                x.pass(1);
            }
            int saved = Math.min(6, calls);
            Check.due("savedStates() of " + calls, x.savedStates(), saved);
            for (int left = saved - 1; left >= 0; left--) {
                Check.due("undo() of " + calls, x.undo(), left);
                Check.due("minutes() with " + left + " left of " + calls, x.minutes(), calls - saved + left);
            }
            Check.refused(x, "undo() of no more of " + calls, IllegalStateException.class, () -> x.undo());
        }
    }

    /** An undone call makes room for a new one, so that the oldest state stays. */
    private static void savingAgainAfterUndo() {
        for (int undone = 1; undone <= 6; undone++) {
            ConcertUsher x = new ConcertUsher();
            for (int n = 0; n < 8; n++) {
                x.pass(1);
            }
            for (int n = 0; n < undone; n++) {
                x.undo();
            }
            for (int n = 0; n < undone; n++) {
                x.pass(10);
            }
            Check.due("savedStates() after " + undone + " again", x.savedStates(), 6);
            for (int n = 0; n < 6; n++) {
                x.undo();
            }
            Check.due("minutes() of the oldest after " + undone + " again", x.minutes(), 2);
        }
    }

    private static void emptyBuffer() {
        ConcertUsher x = new ConcertUsher();
        Check.due("firstError() of an empty buffer", x.firstError(), 0);
        Check.refused(x, "run() of an empty buffer", IllegalArgumentException.class, () -> x.run());
        Check.due("clearText() of an empty buffer", x.clearText(), 0);
        Check.due("clearText() of an empty buffer again", x.clearText(), 0);
        Check.due("append('p') to an empty buffer", x.append('p'), 1);
        x.append('0');
        x.run();
        Check.due("firstError() of a buffer that run emptied", x.firstError(), 0);
        Check.refused(x, "run() of a buffer that run emptied", IllegalArgumentException.class, () -> x.run());
        Check.due("append('t') to a buffer that run emptied", x.append('t'), 1);
    }

    private static void oneCharacter() {
        ConcertUsher x = new ConcertUsher();
        x.append('x');
        Check.due("firstError() of one wrong character", x.firstError(), 0);
        Check.due("clearText() of one character", x.clearText(), 1);
        x.append('c');
        Check.due("firstError() of one right character", x.firstError(), 1);
        Check.due("clearText() of one character", x.clearText(), 1);
    }

    /** "The buffer contains at most 60 characters": a text that has no more room is no error ("however long"). */
    private static void fullBuffer() {
        ConcertUsher x = new ConcertUsher();
        String text = "t10;".repeat(14) + "p0;c";
        for (int n = 0; n < 60; n++) {
            Check.due("append to " + n, x.append(text.charAt(n)), n + 1);
        }
        Check.due("firstError() of a full buffer", x.firstError(), 60);
        Check.refused(x, "append to 60", IllegalStateException.class, () -> x.append('0'));
        Check.refused(x, "run() of half an event at the end", IllegalArgumentException.class, () -> x.run());
        Check.due("minutes() after refused run", x.minutes(), 0);
        Check.due("clearText() of a full buffer", x.clearText(), 60);
        Check.due("append after a full buffer", x.append('c'), 1);
        x.clearText();
        Check.write(x, "t10;".repeat(15));
        Check.due("firstError() of 60 with an end of an event", x.firstError(), 60);
        Check.refused(x, "run() of 60 with an end of an event", IllegalArgumentException.class, () -> x.run());
        x.clearText();
        Check.write(x, text.substring(0, 59) + "0");
        Check.due("firstError() of 60 with a wrong last", x.firstError(), 59);
    }

    private static void fullBufferOfEvents() {
        ConcertUsher x = new ConcertUsher();
        Check.due("run() of 20 events", Check.runText(x, "o3;".repeat(19) + "o3"), 20);
        Check.due("isOpen(3) after turning it 20 times", x.isOpen(3), false);
        String text = "t10;".repeat(12) + "t1;o7;c33;p5";
        Check.due("the length of the text", text.length(), 60);
        Check.due("run() of 60 characters", Check.runText(x, text), 16);
        Check.due("minutes() of 60 characters", x.minutes(), 121);
        Check.due("listeners(3, 3) of 60 characters", x.listeners(3, 3), 1);
        Check.due("count(1): the last event of 60 characters", x.count(1), 1);
        Check.due("savedStates(): 60 characters are one call", x.savedStates(), 2);
        Check.due("clearText() after 60 characters", x.clearText(), 0);
    }

    /** "An object is used for at most 512 calls after it has been made." */
    private static void fiveHundredAndTwelveCalls() {
        ConcertUsher x = new ConcertUsher();
        x.setTimes(20, 3, 1);
        for (int n = 0; n < 508; n++) {
            Check.due("pass(60)", x.pass(60), 60);
        }
        Check.due("minutes() after 508 hours", x.minutes(), 30480);
        Check.due("count(3) after 508 hours", x.count(3), 30480);
        Check.due("the 512th call", x.undo(), 5);
    }
}
