import java.util.Set;

/**
 * No call throws by itself, for any arguments in any state, also long after the 512th call: what comes out is an
 * exception of the call's own throws clause, and no class below it (as the Java machine's own exceptions are).
 */
public final class AnyCallTest {
    private static final int OBJECTS = 20;
    private static final int CALLS = 20000;
    private static final Class<?> NO_INDEX = IndexOutOfBoundsException.class;
    private static final Class<?> NO_ARGUMENT = IllegalArgumentException.class;
    private static final Class<?> NO_STATE = IllegalStateException.class;
    private static final int[] WILD = {-1, 6, 8, 9, 10, 31, 32, 61, 127, 128, 255, 256, 65536, -256,
        Integer.MIN_VALUE, Integer.MIN_VALUE + 1, Integer.MAX_VALUE, Integer.MAX_VALUE / 6, Integer.MIN_VALUE / 6};
    private static final String SIGNS = "clspto;01234567896x";

    private final ConcertUsher x = new ConcertUsher();
    private long seed;

    private interface Call {
        void go();
    }

    private AnyCallTest(long seed) {
        this.seed = seed;
    }

    public static void main(String[] args) {
        for (int object = 1; object <= OBJECTS; object++) {
            AnyCallTest test = new AnyCallTest(object * 104729L);
            for (int n = 0; n < CALLS; n++) {
                test.callAny();
            }
        }
        Check.end("AnyCallTest");
    }

    private void callAny() {
        int a = drawNumber();
        int b = drawNumber();
        int c = drawNumber();
        boolean flag = draw(2) == 1;
        switch (draw(16)) {
            case 0, 1 -> throwsOnly("come", () -> x.come(a, b), NO_INDEX, NO_STATE);
            case 2, 3 -> throwsOnly("leave", () -> x.leave(a, b, flag), NO_INDEX, NO_STATE);
            case 4 -> throwsOnly("setOpen", () -> x.setOpen(a, flag), NO_INDEX);
            case 5 -> throwsOnly("setQuick", () -> x.setQuick(flag));
            case 6 -> throwsOnly("setTimes", () -> x.setTimes(a, b, c), NO_ARGUMENT);
            case 7 -> throwsOnly("setPresent", () -> x.setPresent(a, flag), NO_INDEX);
            case 8 -> throwsOnly("pass", () -> x.pass(a), NO_ARGUMENT);
            case 9 -> throwsOnly("play", () -> x.play(a), NO_INDEX);
            case 10 -> throwsOnly("undo", x::undo, NO_STATE);
            case 11 -> throwsOnly("append", () -> x.append(drawSign(a)), NO_ARGUMENT, NO_STATE);
            case 12 -> write();
            case 13 -> throwsOnly("run", x::run, NO_ARGUMENT);
            case 14 -> askOfAPlace(a, b);
            default -> askOfAll();
        }
    }

    /** Mostly texts that are complete, as a text of any signs hardly ever is. */
    private void write() {
        throwsOnly("clearText", x::clearText);
        int events = 1 + draw(8);
        for (int event = 0; event < events; event++) {
            String place = "" + draw(8) + draw(6);
            String[] kinds = {"c" + place, "l" + place, "s" + place, "p" + draw(6), "t" + (1 + draw(60)),
                "o" + draw(8)};
            String text = (event == 0 ? "" : ";") + kinds[draw(6)];
            throwsOnly("append", () -> Check.write(x, text));
        }
    }

    private void askOfAPlace(int a, int b) {
        throwsOnly("listeners", () -> x.listeners(a, b), NO_INDEX);
        throwsOnly("rest", () -> x.rest(a, b), NO_INDEX);
        throwsOnly("isOpen", () -> x.isOpen(a), NO_INDEX);
        throwsOnly("rows", () -> x.rows(a), NO_INDEX);
        throwsOnly("wanted", () -> x.wanted(a), NO_INDEX);
        throwsOnly("count", () -> x.count(a), NO_INDEX);
        throwsOnly("minutesToFade", () -> x.minutesToFade(a, b), NO_INDEX);
        throwsOnly("disturbedAfter", () -> x.disturbedAfter(a, b), NO_INDEX, NO_ARGUMENT);
    }

    private void askOfAll() {
        throwsOnly("chief", x::chief);
        throwsOnly("entries", x::entries);
        throwsOnly("minutes", x::minutes);
        throwsOnly("sinceQuestion", x::sinceQuestion);
        throwsOnly("usefulShare", x::usefulShare);
        throwsOnly("minutesToQuestion", x::minutesToQuestion);
        throwsOnly("firstError", x::firstError);
        throwsOnly("savedStates", x::savedStates);
        throwsOnly("digest", x::digest);
    }

    private static void throwsOnly(String what, Call call, Class<?>... due) {
        try {
            call.go();
        } catch (Throwable e) {
            if (!Set.of(due).contains(e.getClass())) {
                Check.tell(what + " threw " + e);
            }
        }
    }

    private int drawSign(int other) {
        return draw(9) == 0 ? other : SIGNS.charAt(draw(SIGNS.length()));
    }

    private int drawNumber() {
        return draw(4) == 0 ? WILD[draw(WILD.length)] : draw(draw(3) == 0 ? 60 : 8);
    }

    private int draw(int below) {
        seed = seed * 6364136223846793005L + 1442695040888963407L;
        return (int) ((seed >>> 33) % below);
    }
}
