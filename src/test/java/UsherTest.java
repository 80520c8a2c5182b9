/** Promises 5 to 14: setOpen, setQuick, setTimes, setPresent, chief, rest, entries, isOpen, rows, wanted. */
public final class UsherTest {
    private static final int[] NO_ROWS = {-1, 8, Integer.MIN_VALUE, Integer.MAX_VALUE};
    private static final int[] NO_CONCERTS = {-1, 6, Integer.MIN_VALUE, Integer.MAX_VALUE};

    public static void main(String[] args) {
        setOpenAndIsOpen();
        setQuick();
        setTimes();
        setTimesRefused();
        setPresentAndChief();
        rest();
        entries();
        rowsAndWanted();
        Check.end("UsherTest");
    }

    private static void setOpenAndIsOpen() {
        ConcertUsher x = new ConcertUsher();
        Check.due("setOpen(0, true)", x.setOpen(0, true), false);
        Check.due("setOpen(0, true) again", x.setOpen(0, true), true);
        Check.due("isOpen(0)", x.isOpen(0), true);
        Check.due("isOpen(1)", x.isOpen(1), false);
        Check.due("setOpen(7, false)", x.setOpen(7, false), false);
        Check.due("isOpen(7)", x.isOpen(7), false);
        Check.due("setOpen(7, true)", x.setOpen(7, true), false);
        Check.due("isOpen(7)", x.isOpen(7), true);
        Check.due("setOpen(0, false)", x.setOpen(0, false), true);
        Check.due("isOpen(0) after closing", x.isOpen(0), false);
        Check.due("isOpen(7) after closing 0", x.isOpen(7), true);
        Check.undoable(x, "setOpen(3, true)", () -> x.setOpen(3, true));
        Check.undoable(x, "setOpen(3, false) that changes nothing", () -> x.setOpen(3, false));
        for (int row : NO_ROWS) {
            Check.refused(x, "setOpen(" + row + ", true)", IndexOutOfBoundsException.class, () -> x.setOpen(row, true));
            Check.refused(x, "isOpen(" + row + ")", IndexOutOfBoundsException.class, () -> x.isOpen(row));
        }
    }

    private static void setQuick() {
        ConcertUsher x = new ConcertUsher();
        Check.due("setQuick(true)", x.setQuick(true), false);
        Check.due("setQuick(true) again", x.setQuick(true), true);
        Check.due("setQuick(false)", x.setQuick(false), true);
        Check.due("setQuick(false) again", x.setQuick(false), false);
        Check.undoable(x, "setQuick(false) that changes nothing", () -> x.setQuick(false));
        Check.undoable(x, "setQuick(true)", () -> x.setQuick(true));
        Check.due("undo brings back that the usher is not quick", x.setQuick(false), false);
    }

    private static void setTimes() {
        ConcertUsher x = new ConcertUsher();
        x.come(0, 0);
        Check.due("setTimes(2, 1, 1)", x.setTimes(2, 1, 1), 20);
        Check.due("rests stay", x.rest(0, 0), 20);
        Check.due("minutesToQuestion()", x.minutesToQuestion(), 1);
        Check.due("setTimes(60, 10, 30)", x.setTimes(60, 10, 30), 2);
        Check.due("minutesToQuestion()", x.minutesToQuestion(), 30);
        x.come(1, 0);
        Check.due("the fading time of 60", x.rest(1, 0), 60);
        x.leave(1, 0, true);
        Check.due("the patience of 10", x.rest(1, 0), 10);
        Check.undoable(x, "setTimes(60, 10, 30) that changes nothing", () -> x.setTimes(60, 10, 30));
        Check.undoable(x, "setTimes(7, 2, 4)", () -> x.setTimes(7, 2, 4));
        Check.due("undo brings back the fading time", x.setTimes(60, 9, 30), 60);
        x.come(2, 0);
        x.setTimes(60, 4, 30);
        x.undo();
        x.leave(2, 0, true);
        Check.due("undo brings back the patience", x.rest(2, 0), 9);
    }

    private static void setTimesRefused() {
        ConcertUsher x = new ConcertUsher();
        x.setTimes(30, 5, 15);
        int[][] wrong = {{1, 5, 5}, {61, 5, 5}, {5, 0, 5}, {5, 11, 5}, {5, 5, 0}, {5, 5, 31}, {0, 0, 0},
            {Integer.MIN_VALUE, 5, 5}, {Integer.MAX_VALUE, 5, 5}, {5, -1, 5}, {5, 5, -1},
            {5, Integer.MAX_VALUE, 5}, {5, 5, Integer.MAX_VALUE}};
        for (int[] times : wrong) {
            Check.refused(x, "setTimes(" + times[0] + ", " + times[1] + ", " + times[2] + ")",
                IllegalArgumentException.class, () -> x.setTimes(times[0], times[1], times[2]));
        }
        x.come(0, 0);
        Check.due("the fading time after refused calls", x.rest(0, 0), 30);
        x.leave(0, 0, true);
        Check.due("the patience after refused calls", x.rest(0, 0), 5);
        Check.due("the asking time after refused calls", x.minutesToQuestion(), 15);
    }

    private static void setPresentAndChief() {
        ConcertUsher x = new ConcertUsher();
        Check.due("setPresent(1, false)", x.setPresent(1, false), 0);
        Check.due("setPresent(1, true)", x.setPresent(1, true), 1);
        Check.due("chief()", x.chief(), 1);
        Check.due("setPresent(2, true)", x.setPresent(2, true), 2);
        Check.due("chief()", x.chief(), 2);
        Check.due("setPresent(1, false) beside 2", x.setPresent(1, false), 2);
        Check.due("setPresent(1, true) beside 2", x.setPresent(1, true), 2);
        Check.due("setPresent(2, false) beside 1", x.setPresent(2, false), 1);
        Check.due("chief()", x.chief(), 1);
        Check.due("setPresent(1, false)", x.setPresent(1, false), 0);
        Check.due("chief()", x.chief(), 0);
        Check.undoable(x, "setPresent(1, true)", () -> x.setPresent(1, true));
        Check.undoable(x, "setPresent(2, true)", () -> x.setPresent(2, true));
        Check.undoable(x, "setPresent(2, false) that changes nothing", () -> x.setPresent(2, false));
        int[] wrong = {0, 3, -1, Integer.MIN_VALUE, Integer.MAX_VALUE};
        for (int usher : wrong) {
            Check.refused(x, "setPresent(" + usher + ", true)", IndexOutOfBoundsException.class,
                () -> x.setPresent(usher, true));
            Check.refused(x, "setPresent(" + usher + ", false)", IndexOutOfBoundsException.class,
                () -> x.setPresent(usher, false));
        }
    }

    private static void rest() {
        ConcertUsher x = new ConcertUsher();
        x.come(7, 5);
        x.leave(7, 5, false);
        x.pass(19);
        Check.due("rest(7, 5) in its last minute", x.rest(7, 5), 1);
        Check.due("entries() in its last minute", x.entries(), 1);
        Check.due("rows(5) in its last minute", x.rows(5), 128);
        x.pass(1);
        Check.due("rows(5) when it has faded", x.rows(5), 0);
        Check.due("rest(7, 5) faded", x.rest(7, 5), 0);
        Check.due("rest(0, 0) never there", x.rest(0, 0), 0);
        ListenersTest.refuseOutside(x, "rest", (row, concert) -> x.rest(row, concert));
    }

    private static void entries() {
        ConcertUsher x = new ConcertUsher();
        x.come(0, 0);
        x.come(0, 0);
        x.come(7, 5);
        x.come(7, 4);
        Check.due("entries()", x.entries(), 3);
        x.leave(7, 5, true);
        Check.due("entries() after a farewell", x.entries(), 3);
        x.pass(3);
        Check.due("entries() after the patience", x.entries(), 2);
        Check.due("entries() saves nothing", x.savedStates(), 6);
    }

    private static void rowsAndWanted() {
        ConcertUsher x = new ConcertUsher();
        x.come(0, 5);
        x.come(7, 5);
        x.come(3, 4);
        Check.due("rows(5)", x.rows(5), 129);
        Check.due("wanted(5)", x.wanted(5), 129);
        Check.due("rows(4)", x.rows(4), 8);
        x.setOpen(1, true);
        x.setOpen(7, true);
        Check.due("rows(5) with open rows", x.rows(5), 131);
        Check.due("rows(0) with open rows", x.rows(0), 130);
        Check.due("wanted(5) with open rows", x.wanted(5), 129);
        Check.due("wanted(0) with open rows", x.wanted(0), 0);
        x.leave(0, 5, false);
        Check.due("wanted(5) after silent leaving", x.wanted(5), 128);
        Check.due("rows(5) after silent leaving", x.rows(5), 131);
        for (int concert : NO_CONCERTS) {
            Check.refused(x, "rows(" + concert + ")", IndexOutOfBoundsException.class, () -> x.rows(concert));
            Check.refused(x, "wanted(" + concert + ")", IndexOutOfBoundsException.class, () -> x.wanted(concert));
        }
    }
}
