/** Promises 28 to 30: undo, savedStates, digest. */
public final class UndoTest {
    public static void main(String[] args) {
        undoStepByStep();
        oldestIsDiscarded();
        everythingComesBack();
        undoRefused();
        asksSaveNothing();
        digestOfANewObject();
        digestOfAFullHall();
        Check.end("UndoTest");
    }

    private static void undoStepByStep() {
        ConcertUsher x = new ConcertUsher();
        long[] digests = new long[5];
        for (int n = 0; n < 5; n++) {
            digests[n] = x.digest();
            x.come(n, n);
            Check.due("savedStates()", x.savedStates(), n + 1);
        }
        for (int n = 4; n >= 0; n--) {
            Check.due("undo()", x.undo(), n);
            Check.due("digest() after undo", x.digest(), digests[n]);
        }
    }

    private static void oldestIsDiscarded() {
        ConcertUsher x = new ConcertUsher();
        for (int n = 1; n <= 17; n++) {
            x.pass(1);
            Check.due("savedStates()", x.savedStates(), Math.min(n, 6));
        }
        for (int n = 5; n >= 3; n--) {
            Check.due("undo()", x.undo(), n);
        }
        Check.due("minutes() after three undos", x.minutes(), 14);
        x.pass(20);
        x.pass(30);
        Check.due("savedStates() filled up again", x.savedStates(), 5);
        int[] minutes = {34, 14, 13, 12, 11};
        for (int n = 0; n < 5; n++) {
            Check.due("undo()", x.undo(), 4 - n);
            Check.due("minutes() after undo", x.minutes(), minutes[n]);
        }
        Check.refused(x, "undo() of a discarded state", IllegalStateException.class, () -> x.undo());
    }

    private static void everythingComesBack() {
        ConcertUsher x = new ConcertUsher();
        x.setTimes(30, 7, 12);
        x.setQuick(true);
        x.setOpen(6, true);
        x.come(1, 1);
        x.setPresent(1, true);
        long digest = x.digest();
        x.setTimes(2, 1, 1);
        x.setQuick(false);
        x.setOpen(6, false);
        x.leave(1, 1, true);
        x.setPresent(1, false);
        x.pass(30);
        for (int n = 0; n < 6; n++) {
            x.undo();
        }
        Check.due("digest() after six undos", x.digest(), digest);
        Check.due("minutesToQuestion() after six undos", x.minutesToQuestion(), 24);
        Check.due("setQuick after six undos", x.setQuick(false), true);
        x.come(2, 2);
        Check.due("the fading time after six undos", x.rest(2, 2), 30);
        x.leave(2, 2, true);
        Check.due("the patience after six undos", x.rest(2, 2), 7);
    }

    private static void undoRefused() {
        ConcertUsher x = new ConcertUsher();
        Check.refused(x, "undo() at first", IllegalStateException.class, () -> x.undo());
        x.come(0, 0);
        x.undo();
        Check.refused(x, "undo() of the second state", IllegalStateException.class, () -> x.undo());
    }

    private static void asksSaveNothing() {
        ConcertUsher x = new ConcertUsher();
        x.come(0, 0);
        x.digest();
        x.rows(0);
        x.wanted(0);
        x.chief();
        x.minutes();
        x.sinceQuestion();
        x.usefulShare();
        x.minutesToFade(0, 0);
        x.minutesToQuestion();
        x.disturbedAfter(0, 1);
        x.append('c');
        x.firstError();
        x.clearText();
        x.isOpen(0);
        x.rest(0, 0);
        x.listeners(0, 0);
        Check.due("savedStates() after asks", x.savedStates(), 1);
    }

    private static void digestOfANewObject() {
        long hash = 4701;
        hash = mix(hash, 0, 0, 0, 0, 10);
        for (int zero = 0; zero < 6 + 12 + 8 * 19; zero++) {
            hash = mix(hash, 0);
        }
        Check.due("digest() of a new object", new ConcertUsher().digest(), hash);
    }

    private static void digestOfAFullHall() {
        ConcertUsher x = new ConcertUsher();
        x.come(0, 0);
        x.come(0, 0);
        x.come(7, 5);
        x.leave(7, 5, true);
        x.setOpen(6, true);
        x.setPresent(2, true);
        x.pass(1);
        x.play(5);
        long hash = mix(4701, 1, 1, 2, 2, 19, 0, 2, 0, 0, 1, 3);
        hash = mix(hash, 65, 1, 64, 0, 64, 0, 64, 0, 64, 0, 192, 0);
        hash = mix(hash, 0, 2, 19, -1, 0, 0, 0, 0, 0, 0, 0, 0, 0, 0, 0, 0, 0, 0, 0);
        for (int row = 1; row < 6; row++) {
            hash = mix(hash, 0, 0, 0, 0, 0, 0, 0, 0, 0, 0, 0, 0, 0, 0, 0, 0, 0, 0, 0);
        }
        hash = mix(hash, 1, 0, 0, 0, 0, 0, 0, 0, 0, 0, 0, 0, 0, 0, 0, 0, 0, 0, 0);
        hash = mix(hash, 0, 0, 0, 0, 0, 0, 0, 0, 0, 0, 0, 0, 0, 0, 0, 0, 0, 2, 2);
        Check.due("digest() of a full hall", x.digest(), hash);
    }

    private static long mix(long before, int... values) {
        long hash = before;
        for (int value : values) {
            hash = 31 * hash + value;
        }
        return hash;
    }
}
