import java.util.LinkedHashMap;
import java.util.Map;
import java.util.function.Consumer;

/** The section "Undo" and promises 28 to 30: what saves a state and what does not, and each thing that comes back. */
public final class UndoEdgesTest {
    public static void main(String[] args) {
        eachUndoableCallInEachScene();
        undoableCallsThatChangeNothing();
        otherCallsSaveAndChangeNothing();
        textCallsSaveNothing();
        eachSettingComesBack();
        eachCountComesBack();
        eachPlaceComesBack();
        eachRowComesBack();
        undoIsNotSaved();
        laterCallsLeaveSavedStatesAlone();
        objectsAreOnTheirOwn();
        digestOfEachScene();
        digestTellsStatesApart();
        Check.end("UndoEdgesTest");
    }

    private static Map<String, Consumer<ConcertUsher>> undoableCalls() {
        Map<String, Consumer<ConcertUsher>> calls = new LinkedHashMap<>();
        calls.put("come(6, 3)", x -> x.come(6, 3));
        calls.put("setOpen(3, true)", x -> x.setOpen(3, true));
        calls.put("setOpen(3, false)", x -> x.setOpen(3, false));
        calls.put("setQuick(true)", x -> x.setQuick(true));
        calls.put("setQuick(false)", x -> x.setQuick(false));
        calls.put("setTimes(2, 1, 1)", x -> x.setTimes(2, 1, 1));
        calls.put("setTimes(60, 10, 30)", x -> x.setTimes(60, 10, 30));
        calls.put("setTimes(20, 3, 10)", x -> x.setTimes(20, 3, 10));
        calls.put("setPresent(1, true)", x -> x.setPresent(1, true));
        calls.put("setPresent(1, false)", x -> x.setPresent(1, false));
        calls.put("setPresent(2, true)", x -> x.setPresent(2, true));
        calls.put("setPresent(2, false)", x -> x.setPresent(2, false));
        calls.put("pass(1)", x -> x.pass(1));
        calls.put("pass(60)", x -> x.pass(60));
        calls.put("play(0)", x -> x.play(0));
        calls.put("play(5)", x -> x.play(5));
        return calls;
    }

    /** "Each method that is marked Undoable saves the state from before the call": all of it comes back. */
    private static void eachUndoableCallInEachScene() {
        for (Scene scene : Scene.values()) {
            String before = Probe.ofState(scene::make);
            for (Map.Entry<String, Consumer<ConcertUsher>> call : undoableCalls().entrySet()) {
                String name = call.getKey() + " in scene " + scene;
                ConcertUsher x = scene.make();
                int saved = Math.min(6, x.savedStates() + 1);
                call.getValue().accept(x);
                Check.due("savedStates() after " + name, x.savedStates(), saved);
                Check.due("undo() of " + name, x.undo(), saved - 1);
                Check.same("the state after undone " + name, Probe.ofState(() -> {
                    ConcertUsher y = scene.make();
                    call.getValue().accept(y);
                    y.undo();
                    return y;
                }), before);
            }
        }
        leavingIsUndoable(true);
        leavingIsUndoable(false);
    }

    private static void leavingIsUndoable(boolean isLoud) {
        String before = Probe.ofState(Scene.LAST_MINUTE::make);
        Check.same("the state after undone leave", Probe.ofState(() -> {
            ConcertUsher y = Scene.LAST_MINUTE.make();
            y.leave(1, 1, isLoud);
            Check.due("undo() of leave", y.undo(), 5);
            return y;
        }), before);
    }

    /** "Even if nothing changes." */
    private static void undoableCallsThatChangeNothing() {
        ConcertUsher x = new ConcertUsher();
        long digest = x.digest();
        x.setOpen(0, false);
        Check.due("savedStates() after setOpen", x.savedStates(), 1);
        x.setQuick(false);
        Check.due("savedStates() after setQuick", x.savedStates(), 2);
        x.setTimes(20, 3, 10);
        Check.due("savedStates() after setTimes", x.savedStates(), 3);
        x.setPresent(1, false);
        Check.due("savedStates() after setPresent", x.savedStates(), 4);
        x.play(0);
        Check.due("savedStates() after play", x.savedStates(), 5);
        Check.runText(x, "l00");
        Check.due("savedStates() after run", x.savedStates(), 6);
        Check.due("digest() after calls that change nothing", x.digest(), digest);
    }

    private static void otherCallsSaveAndChangeNothing() {
        for (Scene scene : Scene.values()) {
            String before = Probe.of(scene::make);
            Check.same("what is left by questions in scene " + scene, Probe.of(() -> {
                ConcertUsher x = scene.make();
                for (int number = 0; number < 6; number++) {
                    x.listeners(number, number);
                    x.rest(number, number);
                    x.isOpen(number);
                    x.rows(number);
                    x.wanted(number);
                    x.count(number);
                }
                x.chief();
                x.entries();
                x.minutes();
                x.sinceQuestion();
                x.usefulShare();
                x.firstError();
                x.savedStates();
                x.digest();
                return x;
            }), before);
        }
    }

    private static void textCallsSaveNothing() {
        for (Scene scene : Scene.values()) {
            ConcertUsher x = scene.make();
            int saved = x.savedStates();
            long digest = x.digest();
            x.clearText();
            x.append('c');
            x.append('x');
            x.firstError();
            x.clearText();
            Check.due("savedStates() after calls of the text in scene " + scene, x.savedStates(), saved);
            Check.due("digest() after calls of the text in scene " + scene, x.digest(), digest);
        }
    }

    /** One setting is changed and undone at a time. */
    private static void eachSettingComesBack() {
        ConcertUsher x = new ConcertUsher();
        x.setTimes(33, 7, 13);
        x.setTimes(2, 7, 13);
        x.undo();
        x.come(0, 0);
        Check.due("the fading time comes back", x.rest(0, 0), 33);
        x.setTimes(33, 1, 13);
        x.undo();
        x.leave(0, 0, true);
        Check.due("the patience comes back", x.rest(0, 0), 7);
        x.setTimes(33, 7, 30);
        x.undo();
        Check.due("the asking time comes back", x.minutesToQuestion(), 13);
        x.setQuick(true);
        x.undo();
        Check.due("not quick comes back", x.setQuick(true), false);
        x.setQuick(false);
        x.undo();
        Check.due("quick comes back", x.setQuick(true), true);
        x.setPresent(2, true);
        x.setPresent(1, true);
        x.undo();
        Check.due("that usher 1 is away comes back", x.setPresent(2, false), 0);
        x.setPresent(1, true);
        x.setPresent(1, false);
        x.undo();
        Check.due("that usher 1 is there comes back", x.chief(), 1);
        x.setPresent(2, true);
        x.undo();
        Check.due("that usher 2 is away comes back", x.chief(), 1);
        x.pass(60);
        x.undo();
        Check.due("the minutes come back", x.minutes(), 0);
        Check.due("the time since a question comes back", x.sinceQuestion(), 0);
        x.pass(11);
        x.pass(60);
        x.undo();
        Check.due("the minutes come back", x.minutes(), 11);
        Check.due("the time since a question comes back", x.sinceQuestion(), 11);
    }

    private static void eachCountComesBack() {
        ConcertUsher x = new ConcertUsher();
        x.setTimes(3, 1, 30);
        x.come(0, 0);
        x.pass(3);
        x.come(1, 0);
        x.setOpen(2, true);
        undoneCount(x, 0, y -> y.play(0));
        undoneCount(x, 1, y -> y.play(0));
        undoneCount(x, 2, y -> y.play(0));
        undoneCount(x, 3, y -> y.pass(60));
        undoneCount(x, 4, y -> y.leave(1, 0, true));
        undoneCount(x, 5, y -> y.come(1, 0));
    }

    private static void undoneCount(ConcertUsher x, int what, Consumer<ConcertUsher> call) {
        int before = x.count(what);
        call.accept(x);
        Check.due("count(" + what + ") goes up", x.count(what) > before, true);
        x.undo();
        Check.due("count(" + what + ") comes back", x.count(what), before);
    }

    private static void eachPlaceComesBack() {
        for (int place = 0; place < 48; place++) {
            int row = place / 6;
            int concert = place % 6;
            ConcertUsher x = new ConcertUsher();
            x.come(row, concert);
            x.pass(5);
            x.come(row, concert);
            x.undo();
            Check.due("listeners(" + row + ", " + concert + ") come back", x.listeners(row, concert), 1);
            Check.due("rest(" + row + ", " + concert + ") comes back", x.rest(row, concert), 15);
            x.undo();
            x.undo();
            Check.due("that nobody is there comes back", x.listeners(row, concert), 0);
            Check.due("that there is no entry comes back", x.rest(row, concert), 0);
        }
    }

    private static void eachRowComesBack() {
        for (int row = 0; row < 8; row++) {
            ConcertUsher x = new ConcertUsher();
            x.setOpen(row, true);
            x.setOpen(row, false);
            x.undo();
            Check.due("that the row " + row + " is open comes back", x.isOpen(row), true);
            x.undo();
            Check.due("that the row " + row + " is not open comes back", x.isOpen(row), false);
        }
    }

    /** "Removes it from the saved states": undo itself can't be undone. */
    private static void undoIsNotSaved() {
        ConcertUsher x = new ConcertUsher();
        x.pass(1);
        x.pass(2);
        Check.due("undo()", x.undo(), 1);
        Check.due("savedStates()", x.savedStates(), 1);
        Check.due("undo() again", x.undo(), 0);
        Check.due("minutes()", x.minutes(), 0);
        Check.due("savedStates()", x.savedStates(), 0);
    }

    /** A state is saved as it was, whatever is done after undo has brought it back. */
    private static void laterCallsLeaveSavedStatesAlone() {
        ConcertUsher x = new ConcertUsher();
        x.come(0, 0);
        x.come(1, 1);
        x.come(2, 2);
        x.undo();
        x.pass(30);
        x.come(3, 3);
        x.undo();
        Check.due("minutes() after 30", x.minutes(), 30);
        Check.due("entries() after 30", x.entries(), 2);
        x.undo();
        Check.due("minutes() before 30", x.minutes(), 0);
        Check.due("rest(1, 1) before 30", x.rest(1, 1), 20);
        x.undo();
        Check.due("rest(0, 0) at first", x.rest(0, 0), 20);
        Check.due("entries() at first", x.entries(), 1);
    }

    private static void objectsAreOnTheirOwn() {
        long fresh = new ConcertUsher().digest();
        ConcertUsher x = Scene.FULL.make();
        ConcertUsher y = new ConcertUsher();
        Check.due("digest() of a new object beside a full one", y.digest(), fresh);
        Check.due("savedStates() of a new object beside a full one", y.savedStates(), 0);
        Check.due("clearText() of a new object beside a full one", y.clearText(), 0);
        long full = x.digest();
        y.pass(9);
        Check.due("digest() of a full object beside another", x.digest(), full);
    }

    private static long digestByTheDocument(ConcertUsher x) {
        long hash = 4701;
        int[] first = {x.minutes(), x.sinceQuestion(), x.chief(), x.entries(), x.minutesToQuestion()};
        for (int value : first) {
            hash = 31 * hash + value;
        }
        for (int what = 0; what < 6; what++) {
            hash = 31 * hash + x.count(what);
        }
        for (int concert = 0; concert < 6; concert++) {
            hash = 31 * (31 * hash + x.rows(concert)) + x.wanted(concert);
        }
        for (int row = 0; row < 8; row++) {
            hash = 31 * hash + (x.isOpen(row) ? 1 : 0);
            for (int concert = 0; concert < 6; concert++) {
                hash = 31 * hash + x.listeners(row, concert);
                hash = 31 * hash + x.rest(row, concert);
                hash = 31 * hash + x.minutesToFade(row, concert);
            }
        }
        return hash;
    }

    /** "In long arithmetic with overflow": the hash of so many values goes round many times. */
    private static void digestOfEachScene() {
        for (Scene scene : Scene.values()) {
            ConcertUsher x = scene.make();
            long digest = x.digest();
            Check.due("digest() in scene " + scene, digest, digestByTheDocument(x));
            Check.due("digest() in scene " + scene + " again", x.digest(), digest);
            ConcertUsher later = scene.make();
            later.pass(1);
            Check.due("digest() a minute after scene " + scene, later.digest(), digestByTheDocument(later));
        }
    }

    /** The buffer and the saved states are not in it; what the usher would answer is. */
    private static void digestTellsStatesApart() {
        ConcertUsher x = new ConcertUsher();
        long fresh = x.digest();
        Check.write(x, "p0");
        Check.due("digest() with a text", x.digest(), fresh);
        x.setOpen(7, true);
        Check.due("digest() with an open row is another", x.digest() != fresh, true);
        x.setOpen(7, false);
        Check.due("digest() with saved states", x.digest(), fresh);
        x.come(7, 5);
        long come = x.digest();
        x.undo();
        x.come(7, 4);
        Check.due("digest() of another place is another", x.digest() != come, true);
    }
}
