/** Promises 15 to 20: pass, play, minutes, sinceQuestion, count, usefulShare. */
public final class PlayingTest {
    private static final int[] NO_MINUTES = {0, 61, -1, Integer.MIN_VALUE, Integer.MAX_VALUE};

    public static void main(String[] args) {
        passOfThisChief();
        passOfAnotherChief();
        fadeBeforeQuestion();
        longSinceQuestion();
        passRefused();
        play();
        playRefused();
        count();
        usefulShare();
        Check.end("PlayingTest");
    }

    private static void passOfThisChief() {
        ConcertUsher x = new ConcertUsher();
        Check.due("pass(9)", x.pass(9), 0);
        Check.due("sinceQuestion()", x.sinceQuestion(), 9);
        Check.due("pass(1)", x.pass(1), 1);
        Check.due("sinceQuestion() after a question", x.sinceQuestion(), 0);
        Check.due("minutes()", x.minutes(), 10);
        Check.due("pass(60)", x.pass(60), 6);
        Check.due("minutes()", x.minutes(), 70);
        Check.due("count(3)", x.count(3), 7);
        Check.due("count(5) without listeners", x.count(5), 0);
        x.come(0, 0);
        x.come(0, 0);
        x.come(7, 5);
        x.come(7, 4);
        x.leave(7, 4, false);
        Check.due("pass(10)", x.pass(10), 1);
        Check.due("one of each row and concert calls", x.count(5), 6);
        Check.due("rest of a listener's entry", x.rest(0, 0), 20);
        Check.due("rest of an entry without listeners", x.rest(7, 4), 10);
        Check.undoable(x, "pass(60)", () -> x.pass(60));
    }

    private static void passOfAnotherChief() {
        ConcertUsher x = new ConcertUsher();
        x.setPresent(1, true);
        x.come(2, 2);
        Check.due("pass(19) with chief 1", x.pass(19), 0);
        Check.due("sinceQuestion() with chief 1", x.sinceQuestion(), 19);
        Check.due("rest(2, 2) before the question", x.rest(2, 2), 1);
        Check.due("pass(1) with chief 1", x.pass(1), 1);
        Check.due("sinceQuestion() after the question of 1", x.sinceQuestion(), 0);
        Check.due("count(3) counts the question of 1", x.count(3), 1);
        Check.due("rest(2, 2) after the question of 1", x.rest(2, 2), 20);
        Check.due("count(5) after the question of 1", x.count(5), 2);
        x.setPresent(2, true);
        Check.due("pass(60) with chief 2", x.pass(60), 3);
    }

    private static void fadeBeforeQuestion() {
        ConcertUsher x = new ConcertUsher();
        x.setTimes(5, 1, 5);
        x.come(1, 1);
        x.come(1, 2);
        x.leave(1, 2, false);
        Check.due("pass(5)", x.pass(5), 1);
        Check.due("an entry that fades in the minute of a question is there again", x.rest(1, 1), 5);
        Check.due("an entry without listeners is not", x.rest(1, 2), 0);
    }

    private static void longSinceQuestion() {
        ConcertUsher x = new ConcertUsher();
        x.setTimes(20, 3, 30);
        x.pass(25);
        x.setTimes(20, 3, 5);
        Check.due("sinceQuestion() over the asking time", x.sinceQuestion(), 25);
        Check.due("pass(1) over the asking time", x.pass(1), 1);
        Check.due("sinceQuestion()", x.sinceQuestion(), 0);
        x.setPresent(2, true);
        x.pass(9);
        x.setPresent(2, false);
        Check.due("pass(1) when the other chief has gone", x.pass(1), 1);
    }

    private static void passRefused() {
        ConcertUsher x = new ConcertUsher();
        x.come(0, 0);
        for (int minutes : NO_MINUTES) {
            Check.refused(x, "pass(" + minutes + ")", IllegalArgumentException.class, () -> x.pass(minutes));
        }
    }

    private static void play() {
        ConcertUsher x = new ConcertUsher();
        Check.due("play(0) for nobody", x.play(0), 0);
        x.setTimes(4, 3, 30);
        x.come(0, 2);
        x.pass(4);
        x.come(1, 2);
        x.come(1, 2);
        x.come(2, 2);
        x.leave(2, 2, false);
        x.setOpen(3, true);
        x.setOpen(4, true);
        x.come(4, 2);
        x.come(5, 3);
        Check.due("play(2)", x.play(2), 4);
        Check.due("rows that were served", x.count(0), 2);
        Check.due("rows that were disturbed", x.count(1), 2);
        Check.due("rows that missed it", x.count(2), 1);
        Check.due("play(3)", x.play(3), 3);
        Check.due("rows that were served by both", x.count(0), 3);
        Check.due("rows that were disturbed by both", x.count(1), 4);
        Check.due("rows that missed one", x.count(2), 1);
        Check.due("play passes no time", x.minutes(), 4);
        Check.undoable(x, "play(2)", () -> x.play(2));
        ConcertUsher y = new ConcertUsher();
        Check.undoable(y, "play(0) for nobody", () -> y.play(0));
    }

    private static void playRefused() {
        ConcertUsher x = new ConcertUsher();
        x.setOpen(0, true);
        int[] wrong = {-1, 6, Integer.MIN_VALUE, Integer.MAX_VALUE};
        for (int concert : wrong) {
            Check.refused(x, "play(" + concert + ")", IndexOutOfBoundsException.class, () -> x.play(concert));
        }
    }

    private static void count() {
        ConcertUsher x = new ConcertUsher();
        x.come(0, 0);
        x.leave(0, 0, true);
        x.pass(10);
        Check.due("count(3)", x.count(3), 1);
        Check.due("count(4)", x.count(4), 1);
        Check.due("count(5)", x.count(5), 1);
        Check.due("count saves nothing", x.savedStates(), 3);
        int[] wrong = {-1, 6, Integer.MIN_VALUE, Integer.MAX_VALUE};
        for (int what : wrong) {
            Check.refused(x, "count(" + what + ")", IndexOutOfBoundsException.class, () -> x.count(what));
        }
    }

    private static void usefulShare() {
        ConcertUsher x = new ConcertUsher();
        Check.dueShare("usefulShare() at first", x.usefulShare(), 1.0);
        x.setTimes(4, 3, 30);
        x.come(0, 0);
        x.pass(4);
        x.play(0);
        Check.dueShare("usefulShare() after a miss", x.usefulShare(), 1.0);
        x.setOpen(1, true);
        x.play(1);
        Check.dueShare("usefulShare() after a disturbance", x.usefulShare(), 0.0);
        x.come(1, 1);
        x.setOpen(2, true);
        x.play(1);
        Check.dueShare("usefulShare() of one in three", x.usefulShare(), 1.0 / 3.0);
        x.undo();
        Check.dueShare("usefulShare() after undo", x.usefulShare(), 0.0);
    }
}
