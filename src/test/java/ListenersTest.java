/** Promises 1 to 4: a new object, come, leave, listeners. */
public final class ListenersTest {
    public static void main(String[] args) {
        newObject();
        come();
        comeRefused();
        leaveSilently();
        leaveLoudly();
        leaveLoudlyWithPatience();
        leaveQuickly();
        leaveRefused();
        listeners();
        Check.end("ListenersTest");
    }

    private static void newObject() {
        ConcertUsher x = new ConcertUsher();
        for (int row = 0; row < 8; row++) {
            Check.due("new isOpen(" + row + ")", x.isOpen(row), false);
            for (int concert = 0; concert < 6; concert++) {
                Check.due("new listeners", x.listeners(row, concert), 0);
                Check.due("new rest", x.rest(row, concert), 0);
            }
        }
        for (int what = 0; what < 6; what++) {
            Check.due("new count(" + what + ")", x.count(what), 0);
        }
        Check.due("new chief()", x.chief(), 0);
        Check.due("new minutes()", x.minutes(), 0);
        Check.due("new sinceQuestion()", x.sinceQuestion(), 0);
        Check.due("new savedStates()", x.savedStates(), 0);
        Check.due("new clearText()", x.clearText(), 0);
        Check.due("new setQuick(false)", x.setQuick(false), false);
        Check.due("new setTimes", x.setTimes(20, 3, 10), 20);
        x.come(0, 0);
        x.leave(0, 0, true);
        Check.due("a new object's patience", x.rest(0, 0), 3);
        x.setTimes(20, 1, 30);
        Check.due("another object is on its own", new ConcertUsher().minutesToQuestion(), 10);
    }

    private static void come() {
        ConcertUsher x = new ConcertUsher();
        Check.due("come(7, 5)", x.come(7, 5), 1);
        Check.due("rest(7, 5) after come", x.rest(7, 5), 20);
        x.pass(5);
        Check.due("rest(7, 5) after 5 minutes", x.rest(7, 5), 15);
        Check.due("come(7, 5) again", x.come(7, 5), 2);
        Check.due("rest(7, 5) renewed", x.rest(7, 5), 20);
        Check.due("count(5)", x.count(5), 2);
        Check.due("entries()", x.entries(), 1);
        x.setTimes(4, 3, 10);
        Check.due("come(7, 5) with a shorter fading time", x.come(7, 5), 3);
        Check.due("rest(7, 5) with a shorter fading time", x.rest(7, 5), 4);
        Check.undoable(x, "come(0, 0)", () -> x.come(0, 0));
    }

    private static void comeRefused() {
        ConcertUsher x = new ConcertUsher();
        for (int n = 1; n <= 9; n++) {
            Check.due("come(3, 3)", x.come(3, 3), n);
        }
        x.pass(3);
        Check.refused(x, "come(3, 3) a tenth time", IllegalStateException.class, () -> x.come(3, 3));
        refuseOutside(x, "come", (row, concert) -> x.come(row, concert));
    }

    private static void leaveSilently() {
        ConcertUsher x = new ConcertUsher();
        x.come(1, 2);
        x.come(1, 2);
        x.pass(4);
        Check.due("leave(1, 2, false)", x.leave(1, 2, false), 1);
        Check.due("leave(1, 2, false)", x.leave(1, 2, false), 0);
        Check.due("rest(1, 2) after silent leaving", x.rest(1, 2), 16);
        Check.due("count(4) after silent leaving", x.count(4), 0);
        Check.due("count(5) after silent leaving", x.count(5), 2);
        x.setQuick(true);
        x.come(1, 2);
        x.leave(1, 2, false);
        Check.due("a quick usher hears no silent leaving", x.rest(1, 2), 20);
        x.come(1, 2);
        Check.undoable(x, "leave(1, 2, false)", () -> x.leave(1, 2, false));
    }

    private static void leaveLoudly() {
        ConcertUsher x = new ConcertUsher();
        x.come(1, 2);
        x.come(1, 2);
        x.pass(4);
        Check.due("leave(1, 2, true)", x.leave(1, 2, true), 1);
        Check.due("rest(1, 2) as another calls", x.rest(1, 2), 20);
        Check.due("count(4) as another calls", x.count(4), 1);
        Check.due("count(5) as another calls", x.count(5), 3);
        Check.due("leave(1, 2, true) of the last", x.leave(1, 2, true), 0);
        Check.due("rest(1, 2) as nobody calls", x.rest(1, 2), 3);
        Check.due("count(4) as nobody calls", x.count(4), 2);
        Check.due("count(5) as nobody calls", x.count(5), 3);
        x.come(1, 2);
        Check.undoable(x, "leave(1, 2, true)", () -> x.leave(1, 2, true));
    }

    private static void leaveLoudlyWithPatience() {
        ConcertUsher x = new ConcertUsher();
        x.setTimes(10, 5, 30);
        x.come(0, 5);
        x.come(0, 5);
        x.come(0, 5);
        x.come(0, 5);
        x.pass(5);
        Check.due("leave with a rest as the patience", x.leave(0, 5, true), 3);
        Check.due("no question with a rest as the patience", x.count(4), 0);
        Check.due("the rest stays", x.rest(0, 5), 5);
        x.come(0, 5);
        x.pass(4);
        x.leave(0, 5, true);
        Check.due("a question with a rest over the patience", x.count(4), 1);
        Check.due("the rest becomes the fading time", x.rest(0, 5), 10);
        x.pass(10);
        x.leave(0, 5, true);
        Check.due("no question without an entry", x.count(4), 1);
        Check.due("no entry is made by a farewell", x.entries(), 0);
        x.come(0, 5);
        x.setTimes(2, 7, 30);
        x.leave(0, 5, true);
        Check.due("a call makes the rest the fading time though it is under the patience", x.rest(0, 5), 2);
    }

    private static void leaveQuickly() {
        ConcertUsher x = new ConcertUsher();
        x.setQuick(true);
        x.come(6, 1);
        x.come(6, 1);
        x.come(6, 2);
        x.pass(1);
        Check.due("quick: leave with others there", x.leave(6, 1, true), 1);
        Check.due("quick: a question with others there", x.count(4), 1);
        Check.due("quick: another calls", x.rest(6, 1), 20);
        Check.due("quick: leave of the last", x.leave(6, 1, true), 0);
        Check.due("quick: the entry is removed", x.rest(6, 1), 0);
        Check.due("quick: no question", x.count(4), 1);
        Check.due("quick: the other entry stays", x.entries(), 1);
        x.come(6, 1);
        x.setTimes(3, 10, 30);
        x.come(6, 1);
        x.leave(6, 1, false);
        x.leave(6, 1, true);
        Check.due("quick: the entry is removed though its rest is under the patience", x.rest(6, 1), 0);
    }

    private static void leaveRefused() {
        ConcertUsher x = new ConcertUsher();
        x.come(2, 2);
        x.leave(2, 2, false);
        x.come(2, 3);
        Check.refused(x, "leave(2, 2, true)", IllegalStateException.class, () -> x.leave(2, 2, true));
        Check.refused(x, "leave(2, 2, false)", IllegalStateException.class, () -> x.leave(2, 2, false));
        refuseOutside(x, "leave loudly", (row, concert) -> x.leave(row, concert, true));
        refuseOutside(x, "leave silently", (row, concert) -> x.leave(row, concert, false));
    }

    private static void listeners() {
        ConcertUsher x = new ConcertUsher();
        x.come(0, 5);
        x.come(7, 0);
        x.come(7, 0);
        Check.due("listeners(0, 5)", x.listeners(0, 5), 1);
        Check.due("listeners(7, 0)", x.listeners(7, 0), 2);
        Check.due("listeners(5, 0)", x.listeners(5, 0), 0);
        Check.due("listeners(1, 0)", x.listeners(1, 0), 0);
        Check.due("listeners saves nothing", x.savedStates(), 3);
        refuseOutside(x, "listeners", (row, concert) -> x.listeners(row, concert));
    }

    interface Placed {
        void go(int row, int concert);
    }

    static void refuseOutside(ConcertUsher x, String what, Placed call) {
        int[][] places = {{8, 0}, {-1, 0}, {0, 6}, {0, -1}, {7, 6}, {8, 5}, {-1, 6}, {1, -6},
            {Integer.MAX_VALUE, 0}, {Integer.MIN_VALUE, 0}, {0, Integer.MAX_VALUE}, {0, Integer.MIN_VALUE}};
        for (int[] place : places) {
            Check.refused(x, what + " at " + place[0] + ", " + place[1], IndexOutOfBoundsException.class,
                () -> call.go(place[0], place[1]));
        }
    }
}
