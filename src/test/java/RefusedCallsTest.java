import java.util.function.Consumer;
import java.util.function.IntConsumer;

/**
 * The "Throws" rows of each promise, and "A call that throws an exception changes nothing": each refused call is made
 * in each scene; it must throw the class that is due, and leave state, saved states and buffer as they were.
 */
public final class RefusedCallsTest {
    private static final Class<?> NO_INDEX = IndexOutOfBoundsException.class;
    private static final Class<?> NO_ARGUMENT = IllegalArgumentException.class;
    private static final Class<?> NO_STATE = IllegalStateException.class;

    private static Scene scene;
    private static String before;

    public static void main(String[] args) {
        for (Scene each : Scene.values()) {
            scene = each;
            before = Probe.of(scene::make);
            callsAtAPlace();
            callsOfARow();
            callsOfAConcert();
            setTimes();
            setPresent();
            pass();
            count();
            disturbedAfter();
            append();
        }
        comeToNineListeners();
        leaveWithNoListener();
        appendToAFullBuffer();
        runWithoutACompleteText();
        undoWithNoSavedState();
        Check.end("RefusedCallsTest");
    }

    private static void refused(String what, Class<?> due, Consumer<ConcertUsher> call) {
        String name = what + " in scene " + scene;
        Class<?> got = thrown(scene.make(), call);
        if (got != due) {
            Check.tell(name + " threw " + got + ", due is " + due);
        }
        String after = Probe.of(() -> {
            ConcertUsher x = scene.make();
            thrown(x, call);
            return x;
        });
        Check.same("what is left by refused " + name, after, before);
    }

    private static Class<?> thrown(ConcertUsher x, Consumer<ConcertUsher> call) {
        try {
            call.accept(x);
            return null;
        } catch (RuntimeException e) {
            return e.getClass();
        }
    }

    private interface Placed {
        void go(ConcertUsher x, int row, int concert);
    }

    private static void refusedAtNoPlace(String what, Placed call) {
        for (int row : Check.beyond(0, 7)) {
            for (int concert : new int[] {0, 5, 6, -1}) {
                refused(what + "(" + row + ", " + concert + ")", NO_INDEX, x -> call.go(x, row, concert));
            }
        }
        for (int concert : Check.beyond(0, 5)) {
            for (int row : new int[] {0, 1, 6, 7}) {
                refused(what + "(" + row + ", " + concert + ")", NO_INDEX, x -> call.go(x, row, concert));
            }
        }
    }

    private static void callsAtAPlace() {
        refusedAtNoPlace("come", (x, row, concert) -> x.come(row, concert));
        refusedAtNoPlace("leave loudly", (x, row, concert) -> x.leave(row, concert, true));
        refusedAtNoPlace("leave silently", (x, row, concert) -> x.leave(row, concert, false));
        refusedAtNoPlace("listeners", (x, row, concert) -> x.listeners(row, concert));
        refusedAtNoPlace("rest", (x, row, concert) -> x.rest(row, concert));
        refusedAtNoPlace("minutesToFade", (x, row, concert) -> x.minutesToFade(row, concert));
    }

    private static void callsOfARow() {
        for (int row : Check.beyond(0, 7)) {
            refused("setOpen(" + row + ", true)", NO_INDEX, x -> x.setOpen(row, true));
            refused("setOpen(" + row + ", false)", NO_INDEX, x -> x.setOpen(row, false));
            refused("isOpen(" + row + ")", NO_INDEX, x -> x.isOpen(row));
        }
    }

    private static void callsOfAConcert() {
        for (int concert : Check.beyond(0, 5)) {
            refused("rows(" + concert + ")", NO_INDEX, x -> x.rows(concert));
            refused("wanted(" + concert + ")", NO_INDEX, x -> x.wanted(concert));
            refused("play(" + concert + ")", NO_INDEX, x -> x.play(concert));
        }
    }

    private static void setTimes() {
        for (int fading : Check.beyond(2, 60)) {
            refusedTimes(fading, 1, 1);
            refusedTimes(fading, 10, 30);
            refusedTimes(fading, 0, 31);
        }
        for (int patience : Check.beyond(1, 10)) {
            refusedTimes(2, patience, 1);
            refusedTimes(60, patience, 30);
            refusedTimes(60, patience, 0);
        }
        for (int asking : Check.beyond(1, 30)) {
            refusedTimes(2, 1, asking);
            refusedTimes(60, 10, asking);
            refusedTimes(1, 10, asking);
        }
    }

    private static void refusedTimes(int fading, int patience, int asking) {
        refused("setTimes(" + fading + ", " + patience + ", " + asking + ")", NO_ARGUMENT,
            x -> x.setTimes(fading, patience, asking));
    }

    /** The usher 0 is always present, so it can't come or go. */
    private static void setPresent() {
        IntConsumer neitherOneNorTwo = usher -> {
            refused("setPresent(" + usher + ", true)", NO_INDEX, x -> x.setPresent(usher, true));
            refused("setPresent(" + usher + ", false)", NO_INDEX, x -> x.setPresent(usher, false));
        };
        for (int usher : Check.beyond(1, 2)) {
            neitherOneNorTwo.accept(usher);
        }
        neitherOneNorTwo.accept(-1);
        neitherOneNorTwo.accept(-2);
    }

    private static void pass() {
        for (int minutes : Check.beyond(1, 60)) {
            refused("pass(" + minutes + ")", NO_ARGUMENT, x -> x.pass(minutes));
        }
        refused("pass(-1)", NO_ARGUMENT, x -> x.pass(-1));
    }

    private static void count() {
        for (int what : Check.beyond(0, 5)) {
            refused("count(" + what + ")", NO_INDEX, x -> x.count(what));
        }
    }

    /** Where both exceptions apply, the one of the concert stands first in the throws clause. */
    private static void disturbedAfter() {
        for (int concert : Check.beyond(0, 5)) {
            for (int minutes : new int[] {0, 1, 60, 61}) {
                refused("disturbedAfter(" + concert + ", " + minutes + ")", NO_INDEX,
                    x -> x.disturbedAfter(concert, minutes));
            }
        }
        for (int minutes : Check.beyond(1, 60)) {
            refused("disturbedAfter(0, " + minutes + ")", NO_ARGUMENT, x -> x.disturbedAfter(0, minutes));
            refused("disturbedAfter(5, " + minutes + ")", NO_ARGUMENT, x -> x.disturbedAfter(5, minutes));
        }
    }

    /** Also in the scene whose buffer is full, where both exceptions apply: the one of the code stands first. */
    private static void append() {
        for (int code : Check.beyond(33, 126)) {
            refused("append(" + code + ")", NO_ARGUMENT, x -> x.append(code));
        }
        refused("append(0)", NO_ARGUMENT, x -> x.append(0));
        refused("append(-1)", NO_ARGUMENT, x -> x.append(-1));
        refused("append('c' + 65536)", NO_ARGUMENT, x -> x.append('c' + 65536));
    }

    private static void comeToNineListeners() {
        start(Scene.FULL);
        refused("come(0, 0)", NO_STATE, x -> x.come(0, 0));
        refused("come(7, 5)", NO_STATE, x -> x.come(7, 5));
    }

    /** Never there, gone silently with an entry left, and gone loudly. */
    private static void leaveWithNoListener() {
        start(Scene.NEW);
        refusedToLeave(0, 0);
        refusedToLeave(7, 5);
        start(Scene.LAST_MINUTE);
        refusedToLeave(2, 2);
        refusedToLeave(1, 2);
        start(Scene.BUSY);
        refusedToLeave(1, 1);
        start(Scene.FULL);
        refusedToLeave(3, 3);
        refusedToLeave(0, 5);
        refusedToLeave(7, 0);
    }

    private static void refusedToLeave(int row, int concert) {
        String place = "(" + row + ", " + concert + ")";
        refused("leave loudly" + place, NO_STATE, x -> x.leave(row, concert, true));
        refused("leave silently" + place, NO_STATE, x -> x.leave(row, concert, false));
    }

    private static void appendToAFullBuffer() {
        start(Scene.FULL);
        for (int code : new int[] {33, 'c', ';', 126}) {
            refused("append(" + code + ")", NO_STATE, x -> x.append(code));
        }
    }

    /** An empty buffer, and one that ends within an event. */
    private static void runWithoutACompleteText() {
        start(Scene.NEW);
        refused("run()", NO_ARGUMENT, x -> x.run());
        start(Scene.BUSY);
        refused("run()", NO_ARGUMENT, x -> x.run());
    }

    private static void undoWithNoSavedState() {
        start(Scene.NEW);
        refused("undo()", NO_STATE, x -> x.undo());
    }

    private static void start(Scene first) {
        scene = first;
        before = Probe.of(scene::make);
    }
}
