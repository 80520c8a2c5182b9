import java.util.function.Supplier;

/**
 * All that can be asked of an usher as one text, so that two ushers can be compared: also what only later calls show
 * (the times, the presence of an usher below the chief asker, the buffer, each saved state).
 */
final class Probe {
    /** As some questions use an usher up, each gets one of its own. */
    static String of(Supplier<ConcertUsher> maker) {
        StringBuilder told = new StringBuilder();
        tellBuffer(maker, told);
        int saved = maker.get().savedStates();
        told.append("\nsaved states ").append(saved);
        for (int back = 0; back <= saved; back++) {
            int steps = back;
            tellState(() -> undone(maker, steps), told.append("\n").append(steps).append(" undone: "));
        }
        return told.toString();
    }

    /** Without the buffer and the saved states. */
    static String ofState(Supplier<ConcertUsher> maker) {
        StringBuilder told = new StringBuilder();
        tellState(maker, told);
        return told.toString();
    }

    private static ConcertUsher undone(Supplier<ConcertUsher> maker, int steps) {
        ConcertUsher x = maker.get();
        for (int n = 0; n < steps; n++) {
            x.undo();
        }
        return x;
    }

    private static void tellBuffer(Supplier<ConcertUsher> maker, StringBuilder told) {
        told.append("first error ").append(maker.get().firstError());
        told.append(", length ").append(maker.get().clearText());
        tellRun(maker.get(), told);
        ConcertUsher longer = maker.get();
        if (longer.clearText() < 60) {
            longer = maker.get();
            longer.append('0');
            tellRun(longer, told);
        }
    }

    private static void tellRun(ConcertUsher x, StringBuilder told) {
        try {
            told.append(", run ").append(x.run()).append(", then ").append(x.digest());
        } catch (IllegalArgumentException e) {
            told.append(", not complete");
        }
    }

    private static void tellState(Supplier<ConcertUsher> maker, StringBuilder told) {
        tellAnswers(maker.get(), told);
        tellSettings(maker.get(), told);
        tellPatience(maker.get(), told);
        ConcertUsher x = maker.get();
        told.append(" pass ").append(x.pass(60)).append(", then in ").append(x.minutesToQuestion());
    }

    private static void tellAnswers(ConcertUsher x, StringBuilder told) {
        told.append(x.chief()).append(' ').append(x.entries()).append(' ').append(x.minutes()).append(' ');
        told.append(x.sinceQuestion()).append(' ').append(x.usefulShare()).append(' ').append(x.minutesToQuestion());
        for (int number = 0; number < 6; number++) {
            told.append(' ').append(x.rows(number)).append(' ').append(x.wanted(number));
            told.append(' ').append(x.count(number)).append(' ').append(x.disturbedAfter(number, 2));
        }
        for (int row = 0; row < 8; row++) {
            told.append(' ').append(x.isOpen(row));
            for (int concert = 0; concert < 6; concert++) {
                told.append(' ').append(x.listeners(row, concert)).append(' ').append(x.rest(row, concert));
                told.append(' ').append(x.minutesToFade(row, concert));
            }
        }
        told.append(' ').append(x.digest());
    }

    private static void tellSettings(ConcertUsher x, StringBuilder told) {
        told.append(" quick ").append(x.setQuick(false)).append(", fading ").append(x.setTimes(2, 1, 1));
        told.append(", chiefs ").append(x.setPresent(2, false)).append(x.setPresent(1, false));
    }

    /** A farewell of the last one there shows the patience, where the fading time is greater. */
    private static void tellPatience(ConcertUsher x, StringBuilder told) {
        x.setQuick(false);
        x.come(6, 3);
        x.leave(6, 3, true);
        told.append(", patience ").append(x.rest(6, 3));
    }

    private Probe() {
    }
}
