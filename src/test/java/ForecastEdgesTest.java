/** Promises 21 to 23 at their edges; a twin of the usher, or the usher itself, is then played forward to compare. */
public final class ForecastEdgesTest {
    private static final int NONE = ConcertUsher.NONE;

    public static void main(String[] args) {
        noneIsMinusOne();
        fadesNowOrNever();
        fadesWithoutListeners();
        fadesAroundTheQuestion();
        fadesAroundTheNextQuestion();
        fadesLateOrNotIn150Minutes();
        fadesWhenTheQuestionIsOverdue();
        fadesAsPlayedForward();
        asksAsPlayedForward();
        asksJustAfterAQuestion();
        disturbsOnlyWithoutListeners();
        disturbsInTheMinuteOfFading();
        disturbsAsPlayedForward();
        forecastsChangeNothing();
        Check.end("ForecastEdgesTest");
    }

    /** "NONE = -1: There is no such number." */
    private static void noneIsMinusOne() {
        Check.due("NONE", NONE, -1);
    }

    /** "0 if there is none now": also if a listener is there whom a question would make call. */
    private static void fadesNowOrNever() {
        ConcertUsher x = new ConcertUsher();
        Check.due("minutesToFade(0, 0) without entry", x.minutesToFade(0, 0), 0);
        x.setTimes(2, 1, 10);
        x.come(0, 0);
        x.pass(2);
        Check.due("minutesToFade(0, 0) without entry, with a listener", x.minutesToFade(0, 0), 0);
        x.pass(7);
        Check.due("minutesToFade(0, 0) without entry, before a question", x.minutesToFade(0, 0), 0);
        x.pass(1);
        Check.due("minutesToFade(0, 0) after the question", x.minutesToFade(0, 0), 2);
        x.setTimes(20, 1, 10);
        x.come(0, 0);
        Check.due("minutesToFade(0, 0) renewed again and again", x.minutesToFade(0, 0), NONE);
    }

    private static void fadesWithoutListeners() {
        for (int rest = 2; rest <= 60; rest++) {
            ConcertUsher x = new ConcertUsher();
            x.setTimes(rest, 1, 1);
            x.come(7, 5);
            x.leave(7, 5, false);
            Check.due("minutesToFade(7, 5) of the rest " + rest, x.minutesToFade(7, 5), rest);
            x.pass(rest - 1);
            Check.due("minutesToFade(7, 5) of the rest 1", x.minutesToFade(7, 5), 1);
            x.pass(1);
            Check.due("minutesToFade(7, 5) of no rest", x.minutesToFade(7, 5), 0);
        }
    }

    /** With a rest one less than, as long as, and one more than the minutes to the question. */
    private static void fadesAroundTheQuestion() {
        int[] rests = {9, 10, 11};
        int[] due = {9, 12, 12};
        for (int n = 0; n < 3; n++) {
            ConcertUsher x = new ConcertUsher();
            x.setTimes(rests[n], 1, 10);
            x.come(0, 0);
            x.setTimes(2, 1, 10);
            Check.due("minutesToQuestion()", x.minutesToQuestion(), 10);
            Check.due("minutesToFade(0, 0) of the rest " + rests[n], x.minutesToFade(0, 0), due[n]);
        }
    }

    /** With a fading time one less than, as long as, and one more than the time from question to question. */
    private static void fadesAroundTheNextQuestion() {
        int[] fadings = {9, 10, 11};
        int[] due = {19, NONE, NONE};
        for (int n = 0; n < 3; n++) {
            ConcertUsher x = new ConcertUsher();
            x.setTimes(20, 1, 10);
            x.come(0, 0);
            x.setTimes(fadings[n], 1, 10);
            Check.due("minutesToFade(0, 0) with the fading time " + fadings[n], x.minutesToFade(0, 0), due[n]);
            x.setPresent(1, true);
            x.setTimes(10 + fadings[n], 1, 10);
            int later = due[n] == NONE ? NONE : 20 + 19;
            Check.due("minutesToFade(0, 0) with another chief", x.minutesToFade(0, 0), later);
        }
    }

    /** "NONE if there still is one after 150 minutes": the latest that an entry can fade is 119 minutes from now. */
    private static void fadesLateOrNotIn150Minutes() {
        ConcertUsher x = new ConcertUsher();
        x.setPresent(2, true);
        x.setTimes(60, 1, 30);
        x.come(0, 0);
        Check.due("minutesToFade(0, 0) with the fading time 60", x.minutesToFade(0, 0), NONE);
        x.setTimes(59, 1, 30);
        Check.due("minutesToFade(0, 0) with the fading time 59", x.minutesToFade(0, 0), 119);
        x.setTimes(58, 1, 30);
        Check.due("minutesToFade(0, 0) with the fading time 58", x.minutesToFade(0, 0), 118);
        x.setTimes(2, 1, 30);
        Check.due("minutesToFade(0, 0) with the fading time 2", x.minutesToFade(0, 0), 62);
        x.leave(0, 0, false);
        Check.due("minutesToFade(0, 0) without a listener", x.minutesToFade(0, 0), 60);
    }

    private static void fadesWhenTheQuestionIsOverdue() {
        ConcertUsher x = new ConcertUsher();
        x.setTimes(26, 1, 30);
        x.come(0, 0);
        x.come(1, 1);
        x.leave(1, 1, false);
        x.pass(25);
        x.setTimes(4, 1, 5);
        Check.due("rest(0, 0) before an overdue question", x.rest(0, 0), 1);
        Check.due("minutesToFade(0, 0) before an overdue question", x.minutesToFade(0, 0), 5);
        Check.due("minutesToFade(1, 1) before an overdue question", x.minutesToFade(1, 1), 1);
        x.setTimes(5, 1, 5);
        Check.due("minutesToFade(0, 0) renewed by each question", x.minutesToFade(0, 0), NONE);
    }

    private static ConcertUsher twin(int kind, int rest, int fading, int asking, int since) {
        ConcertUsher x = new ConcertUsher();
        x.setTimes(60, 1, 30);
        x.setPresent(2, kind / 2 == 1);
        if (since > 0) {
            x.pass(since);
        }
        x.setTimes(rest, 1, 30);
        x.come(4, 1);
        if (kind % 2 == 1) {
            x.leave(4, 1, false);
        }
        x.setTimes(fading, 1, asking);
        return x;
    }

    private static int fadesForward(ConcertUsher x) {
        for (int minutes = 0; minutes <= 150; minutes++) {
            if (x.rest(4, 1) == 0) {
                return minutes;
            }
            x.pass(1);
        }
        return NONE;
    }

    private static void fadesAsPlayedForward() {
        int[] rests = {2, 9, 10, 11, 29, 30, 31, 60};
        int[] fadings = {2, 9, 10, 11, 19, 20, 21, 29, 30, 58, 59, 60};
        int[] askings = {1, 2, 9, 10, 11, 29, 30};
        int[] sinces = {0, 1, 9, 19, 29};
        for (int kind = 0; kind < 4; kind++) {
            for (int rest : rests) {
                for (int fading : fadings) {
                    for (int asking : askings) {
                        for (int since : sinces) {
                            ConcertUsher x = twin(kind, rest, fading, asking, since);
                            String how = kind + ", " + rest + ", " + fading + ", " + asking + ", " + since;
                            int got = x.minutesToFade(4, 1);
                            Check.due("minutesToFade of " + how, got, fadesForward(x));
                        }
                    }
                }
            }
        }
    }

    private static void asksAsPlayedForward() {
        for (int kind = 0; kind < 4; kind += 2) {
            for (int asking = 1; asking <= 30; asking++) {
                for (int since = 0; since < 30; since++) {
                    ConcertUsher x = twin(kind, 20, 20, asking, since);
                    int got = x.minutesToQuestion();
                    int minutes = 1;
                    while (minutes < 100 && x.pass(1) == 0) {
                        minutes++;
                    }
                    Check.due("minutesToQuestion of " + kind + ", " + asking + ", " + since, got, minutes);
                }
            }
        }
    }

    private static void asksJustAfterAQuestion() {
        ConcertUsher x = new ConcertUsher();
        x.pass(10);
        Check.due("minutesToQuestion() just after a question", x.minutesToQuestion(), 10);
        x.setTimes(20, 3, 1);
        Check.due("minutesToQuestion() with the asking time 1", x.minutesToQuestion(), 1);
        x.pass(1);
        Check.due("minutesToQuestion() with the asking time 1 again", x.minutesToQuestion(), 1);
        x.setPresent(1, true);
        Check.due("minutesToQuestion() with the asking time 1 and another chief", x.minutesToQuestion(), 2);
        x.setTimes(20, 3, 30);
        Check.due("minutesToQuestion() with the asking time 30 and another chief", x.minutesToQuestion(), 60);
    }

    /** A row with a listener is served or misses the concert, but is never disturbed, whether it is open or not. */
    private static void disturbsOnlyWithoutListeners() {
        ConcertUsher x = new ConcertUsher();
        x.setOpen(0, true);
        x.setOpen(1, true);
        x.come(1, 2);
        x.come(2, 2);
        Check.due("disturbedAfter(2, 1): one open row without listeners", x.disturbedAfter(2, 1), 1);
        Check.due("disturbedAfter(2, 60): one open row without listeners", x.disturbedAfter(2, 60), 1);
        Check.due("disturbedAfter(3, 1): two open rows without listeners", x.disturbedAfter(3, 1), 2);
        x.leave(1, 2, false);
        x.leave(2, 2, false);
        Check.due("disturbedAfter(2, 1): all without listeners", x.disturbedAfter(2, 1), 3);
        Check.due("disturbedAfter(2, 60): an open row needs no entry", x.disturbedAfter(2, 60), 2);
    }

    private static void disturbsInTheMinuteOfFading() {
        for (int rest = 2; rest <= 60; rest++) {
            ConcertUsher x = new ConcertUsher();
            x.setTimes(rest, 1, 1);
            x.come(7, 5);
            x.leave(7, 5, false);
            Check.due("disturbedAfter a minute before the rest " + rest, x.disturbedAfter(5, rest - 1), 1);
            Check.due("disturbedAfter the rest " + rest, x.disturbedAfter(5, rest), 0);
        }
    }

    private static void disturbsAsPlayedForward() {
        for (Scene scene : Scene.values()) {
            for (int concert = 0; concert < 6; concert++) {
                for (int minutes = 1; minutes <= 60; minutes++) {
                    ConcertUsher x = scene.make();
                    int got = x.disturbedAfter(concert, minutes);
                    int before = x.count(1);
                    x.pass(minutes);
                    x.play(concert);
                    String call = "disturbedAfter(" + concert + ", " + minutes + ") in scene " + scene;
                    Check.due(call, got, x.count(1) - before);
                }
            }
        }
    }

    /** "Forecasts; they change nothing." */
    private static void forecastsChangeNothing() {
        for (Scene scene : Scene.values()) {
            String before = Probe.of(scene::make);
            String after = Probe.of(() -> {
                ConcertUsher x = scene.make();
                x.minutesToQuestion();
                for (int concert = 0; concert < 6; concert++) {
                    x.disturbedAfter(concert, 1);
                    x.disturbedAfter(concert, 60);
                    x.minutesToFade(0, concert);
                    x.minutesToFade(7, concert);
                    x.minutesToFade(concert, concert);
                }
                return x;
            });
            Check.same("what is left by forecasts in scene " + scene, after, before);
        }
    }
}
