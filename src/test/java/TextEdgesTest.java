/** The section "Event text" and promises 24 to 27: each place in an event, each character, each way to stop. */
public final class TextEdgesTest {
    /** What stands before a character, and the characters that may follow; a star marks a complete event. */
    private static final String[][] MAY_FOLLOW = {
        {"", "clspto", ""},
        {"c", "01234567", ""}, {"c0", "012345", ""}, {"c7", "012345", ""}, {"c00", ";", "*"}, {"c75", ";", "*"},
        {"l", "01234567", ""}, {"l0", "012345", ""}, {"l7", "012345", ""}, {"l00", ";", "*"}, {"l75", ";", "*"},
        {"s", "01234567", ""}, {"s0", "012345", ""}, {"s7", "012345", ""}, {"s00", ";", "*"}, {"s75", ";", "*"},
        {"p", "012345", ""}, {"p0", ";", "*"}, {"p5", ";", "*"},
        {"t", "123456789", ""}, {"t1", "0123456789;", "*"}, {"t2", "0123456789;", "*"}, {"t5", "0123456789;", "*"},
        {"t6", "0;", "*"}, {"t7", ";", "*"}, {"t9", ";", "*"}, {"t10", ";", "*"}, {"t59", ";", "*"}, {"t60", ";", "*"},
        {"o", "01234567", ""}, {"o0", ";", "*"}, {"o7", ";", "*"},
    };

    public static void main(String[] args) {
        eachCharacterAfterEachBeginning();
        completeOrNot();
        firstErrorStaysTheFirst();
        afterAnErrorNothingIsComplete();
        noErrorInABeginning();
        clearTextForgetsAll();
        openTurns();
        playLikeTheMethod();
        passLikeTheMethod();
        leavingLikeTheMethod();
        stopsAtTheTenthListener();
        stopsWhereNobodyIsLeft();
        stopsAtEachPlaceOfAText();
        doesAllInOrder();
        runIsOneCall();
        runOfNoEventIsSaved();
        refusedRunIsNotSaved();
        textIsNotUndone();
        Check.end("TextEdgesTest");
    }

    private static ConcertUsher withText(String text) {
        ConcertUsher x = new ConcertUsher();
        Check.write(x, text);
        return x;
    }

    /** "A character of the buffer is an error if no event text begins with the characters before it and this one." */
    private static void eachCharacterAfterEachBeginning() {
        for (String[] row : MAY_FOLLOW) {
            for (char next = 33; next <= 126; next++) {
                boolean follows = row[1].indexOf(next) >= 0;
                for (String before : new String[] {row[0], "p5;" + row[0], "t6;t60;" + row[0]}) {
                    int length = before.length();
                    int due = follows ? length + 1 : length;
                    Check.due("firstError() of " + before + next, withText(before + next).firstError(), due);
                }
            }
        }
    }

    /** "An event text is one or more events with ';' between them." */
    private static void completeOrNot() {
        for (String[] row : MAY_FOLLOW) {
            boolean complete = row[2].equals("*");
            for (String text : new String[] {row[0], "p5;" + row[0], "t6;t60;o7;" + row[0]}) {
                if (complete) {
                    ConcertUsher x = withText(text);
                    int events = text.split(";").length;
                    Check.due("run() of " + text, x.run(), row[0].matches("[ls].*") ? events - 1 : events);
                    Check.due("the buffer after run() of " + text, x.clearText(), 0);
                } else {
                    refusedRun(text);
                }
            }
        }
        refusedRun(";");
        refusedRun(";p0");
        refusedRun("p0;");
        refusedRun("p0;;p0");
        refusedRun("p0;p0;");
        refusedRun("p0p0");
        refusedRun("t01");
        refusedRun("t0");
        refusedRun("t61");
        refusedRun("t100");
        refusedRun("c80");
        refusedRun("c06");
        refusedRun("P0");
        refusedRun("p0,p0");
    }

    private static void refusedRun(String text) {
        ConcertUsher x = withText(text);
        Check.refused(x, "run() of " + text, IllegalArgumentException.class, () -> x.run());
        Check.due("the buffer stays after refused run() of " + text, x.clearText(), text.length());
    }

    private static void firstErrorStaysTheFirst() {
        Check.due("firstError() of xc00", withText("xc00").firstError(), 0);
        Check.due("firstError() of ;c00", withText(";c00").firstError(), 0);
        Check.due("firstError() of c9;c00", withText("c9;c00").firstError(), 1);
        Check.due("firstError() of c00;p9;p9", withText("c00;p9;p9").firstError(), 5);
        Check.due("firstError() of t61;t61", withText("t61;t61").firstError(), 2);
        ConcertUsher x = withText("p0x");
        Check.due("firstError() of p0x", x.firstError(), 2);
        Check.write(x, ";p0");
        Check.due("firstError() of p0x;p0", x.firstError(), 2);
        Check.write(x, "p".repeat(54));
        Check.due("firstError() of 60 characters", x.firstError(), 2);
    }

    private static void afterAnErrorNothingIsComplete() {
        refusedRun("xp0");
        refusedRun("p9;p0");
        refusedRun("p0x;p0");
        refusedRun("t61;t60");
        refusedRun("c;c00");
    }

    /** "The length of the buffer if there is none (also if the buffer is not a complete event text)." */
    private static void noErrorInABeginning() {
        String text = "c75;l75;s75;p5;t60;o7;t9;t1";
        for (int length = 0; length <= text.length(); length++) {
            String part = text.substring(0, length);
            Check.due("firstError() of " + part, withText(part).firstError(), length);
        }
    }

    private static void clearTextForgetsAll() {
        ConcertUsher x = withText("x");
        Check.due("clearText() of an error", x.clearText(), 1);
        Check.write(x, "t1");
        Check.due("firstError() after a forgotten error", x.firstError(), 2);
        Check.write(x, "2");
        x.clearText();
        Check.write(x, "t1");
        Check.due("run() after a forgotten digit", x.run(), 1);
        Check.due("minutes() after a forgotten digit", x.minutes(), 1);
        Check.write(x, "c00;c11");
        x.clearText();
        Check.write(x, "c22");
        Check.due("run() after a forgotten event", x.run(), 1);
        Check.due("entries() after a forgotten event", x.entries(), 1);
        Check.due("savedStates(): clearText saves nothing", x.savedStates(), 2);
    }

    /** "The row becomes open, or not open any more if it is open." */
    private static void openTurns() {
        ConcertUsher x = new ConcertUsher();
        for (int n = 1; n <= 4; n++) {
            Check.runText(x, "o5");
            Check.due("isOpen(5) after " + n + " turns", x.isOpen(5), n % 2 == 1);
            Check.due("isOpen(4) after " + n + " turns of 5", x.isOpen(4), false);
        }
        Check.runText(x, "o5;o5;o5");
        Check.due("isOpen(5) after three turns in a text", x.isOpen(5), true);
        x.setOpen(5, true);
        Check.runText(x, "o5");
        Check.due("isOpen(5) after setOpen and a turn", x.isOpen(5), false);
    }

    private static void playLikeTheMethod() {
        for (Scene scene : Scene.values()) {
            for (int concert = 0; concert < 6; concert++) {
                ConcertUsher x = scene.make();
                ConcertUsher y = scene.make();
                x.play(concert);
                Check.due("run() of p" + concert, Check.runText(y, "p" + concert), 1);
                Check.due("digest() after p" + concert + " in scene " + scene, y.digest(), x.digest());
            }
        }
    }

    private static void passLikeTheMethod() {
        for (Scene scene : Scene.values()) {
            for (int minutes = 1; minutes <= 60; minutes++) {
                ConcertUsher x = scene.make();
                ConcertUsher y = scene.make();
                x.pass(minutes);
                Check.due("run() of t" + minutes, Check.runText(y, "t" + minutes), 1);
                Check.due("digest() after t" + minutes + " in scene " + scene, y.digest(), x.digest());
            }
        }
    }

    /** "A listener comes, leaves loudly, or leaves silently." */
    private static void leavingLikeTheMethod() {
        for (int quick = 0; quick <= 1; quick++) {
            for (String event : new String[] {"c43", "l43", "s43"}) {
                ConcertUsher x = new ConcertUsher();
                ConcertUsher y = new ConcertUsher();
                x.setQuick(quick == 1);
                y.setQuick(quick == 1);
                for (int left = 0; left < 2; left++) {
                    x.come(4, 3);
                    y.come(4, 3);
                }
                for (int times = 0; times < 2; times++) {
                    if (event.equals("c43")) {
                        x.come(4, 3);
                    } else {
                        x.leave(4, 3, event.equals("l43"));
                    }
                    Check.due("run() of " + event, Check.runText(y, event), 1);
                    Check.due("digest() after " + event, y.digest(), x.digest());
                }
            }
        }
    }

    /** "Up to the first one whose method would throw an exception": come, with nine there. */
    private static void stopsAtTheTenthListener() {
        ConcertUsher x = new ConcertUsher();
        Check.due("run() of ten", Check.runText(x, "c75;".repeat(10) + "p5;t1"), 9);
        Check.due("listeners(7, 5) of ten", x.listeners(7, 5), 9);
        Check.due("count(5) of ten", x.count(5), 9);
        Check.due("count(0): the event after it is not done", x.count(0), 0);
        Check.due("minutes(): the last event is not done", x.minutes(), 0);
        Check.due("the buffer after ten", x.clearText(), 0);
        Check.due("run() of another to nine", Check.runText(x, "c75"), 0);
        Check.due("run() of one elsewhere", Check.runText(x, "c74;c75"), 1);
        Check.due("run() of one after one has left", Check.runText(x, "s75;c75;c75"), 2);
    }

    private static void stopsWhereNobodyIsLeft() {
        ConcertUsher x = new ConcertUsher();
        Check.due("run() of loud leaving of nobody", Check.runText(x, "l00;t1"), 0);
        Check.due("run() of silent leaving of nobody", Check.runText(x, "s00;t1"), 0);
        Check.due("run() of loud leaving twice", Check.runText(x, "c00;l00;l00;t1"), 2);
        Check.due("run() of silent leaving twice", Check.runText(x, "c00;s00;s00;t1"), 2);
        Check.due("minutes(): no last event is done", x.minutes(), 0);
        Check.due("listeners(0, 0)", x.listeners(0, 0), 0);
        Check.due("savedStates(): each run is saved", x.savedStates(), 4);
    }

    private static void stopsAtEachPlaceOfAText() {
        for (int done = 0; done <= 14; done++) {
            ConcertUsher x = new ConcertUsher();
            String text = "t1;".repeat(done) + "l00" + ";t1".repeat(14 - done);
            Check.due("run() of " + text, Check.runText(x, text), done);
            Check.due("minutes() after " + text, x.minutes(), done);
            Check.due("the buffer after " + text, x.clearText(), 0);
        }
    }

    /** "One after the other": each event meets what those before it have left. */
    private static void doesAllInOrder() {
        ConcertUsher x = new ConcertUsher();
        Check.due("run()", Check.runText(x, "p1;c31;p1;t5;l31;p1;t3;p1;o3;p1"), 10);
        Check.due("count(0): one play when there is a listener", x.count(0), 1);
        Check.due("count(1): one in the patience, one when it is open", x.count(1), 2);
        Check.due("minutes()", x.minutes(), 8);
        Check.due("count(4)", x.count(4), 1);
        Check.due("isOpen(3)", x.isOpen(3), true);
    }

    /** "Undoable, as one call." */
    private static void runIsOneCall() {
        for (Scene scene : Scene.values()) {
            ConcertUsher x = scene.make();
            long digest = x.digest();
            int saved = Math.min(6, x.savedStates() + 1);
            Check.due("run() in scene " + scene, Check.runText(x, "c50;c50;t30;o1;p0;l50;s50"), 7);
            Check.due("savedStates() after run() in scene " + scene, x.savedStates(), saved);
            Check.due("undo() of run() in scene " + scene, x.undo(), saved - 1);
            Check.due("digest() after undone run() in scene " + scene, x.digest(), digest);
        }
    }

    /** "Also if no event is done." */
    private static void runOfNoEventIsSaved() {
        ConcertUsher x = new ConcertUsher();
        x.pass(3);
        long digest = x.digest();
        Check.due("run() of no event", Check.runText(x, "l00;t5"), 0);
        Check.due("digest() after no event", x.digest(), digest);
        Check.due("savedStates() after no event", x.savedStates(), 2);
        Check.due("undo() of no event", x.undo(), 1);
        Check.due("minutes() after undo of no event", x.minutes(), 3);
        x.undo();
        Check.due("minutes() after another undo", x.minutes(), 0);
    }

    private static void refusedRunIsNotSaved() {
        ConcertUsher x = new ConcertUsher();
        x.pass(3);
        Check.write(x, "t5;");
        Check.refused(x, "run() of t5;", IllegalArgumentException.class, () -> x.run());
        Check.due("savedStates() after refused run", x.savedStates(), 1);
        Check.write(x, "t6");
        Check.due("run() of the buffer that has stayed", x.run(), 2);
        Check.due("minutes() of the buffer that has stayed", x.minutes(), 14);
    }

    /** "The state consists of everything except the buffer and the saved states." */
    private static void textIsNotUndone() {
        ConcertUsher x = new ConcertUsher();
        Check.write(x, "t");
        x.pass(1);
        Check.write(x, "5");
        Check.due("undo()", x.undo(), 0);
        Check.due("firstError(): the buffer is not undone", x.firstError(), 2);
        Check.due("run() of what was written on both sides of undo", x.run(), 1);
        Check.due("minutes()", x.minutes(), 5);
        Check.due("undo() of run", x.undo(), 0);
        Check.due("clearText(): undo of run writes nothing back", x.clearText(), 0);
    }
}
