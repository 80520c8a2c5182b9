/** Promises 21 to 23: minutesToFade, minutesToQuestion, disturbedAfter. */
public final class ForecastTest {
    public static void main(String[] args) {
        minutesToFade();
        minutesToFadeAroundQuestions();
        minutesToQuestion();
        disturbedAfter();
        disturbedAfterRefused();
        Check.end("ForecastTest");
    }

    private static void minutesToFade() {
        ConcertUsher x = new ConcertUsher();
        Check.due("minutesToFade(0, 0) without entry", x.minutesToFade(0, 0), 0);
        x.come(0, 0);
        Check.due("minutesToFade(0, 0) renewed for good", x.minutesToFade(0, 0), ConcertUsher.NONE);
        x.leave(0, 0, false);
        Check.due("minutesToFade(0, 0) without listeners", x.minutesToFade(0, 0), 20);
        x.pass(13);
        Check.due("minutesToFade(0, 0) after 13 minutes", x.minutesToFade(0, 0), 7);
        x.setTimes(60, 1, 30);
        x.come(7, 5);
        x.leave(7, 5, false);
        Check.due("minutesToFade(7, 5) of the longest rest", x.minutesToFade(7, 5), 60);
        long digest = x.digest();
        x.minutesToFade(7, 5);
        Check.due("minutesToFade changes nothing", x.digest(), digest);
        ListenersTest.refuseOutside(x, "minutesToFade", (row, concert) -> x.minutesToFade(row, concert));
    }

    private static void minutesToFadeAroundQuestions() {
        ConcertUsher x = new ConcertUsher();
        x.setTimes(9, 1, 10);
        x.come(0, 0);
        Check.due("minutesToFade before the question", x.minutesToFade(0, 0), 9);
        x.setTimes(10, 1, 10);
        x.come(0, 0);
        Check.due("minutesToFade in the minute of the question", x.minutesToFade(0, 0), ConcertUsher.NONE);
        x.setTimes(9, 1, 10);
        Check.due("minutesToFade after a question", x.minutesToFade(0, 0), 19);
        x.setTimes(60, 1, 30);
        x.setPresent(2, true);
        x.come(1, 0);
        Check.due("minutesToFade with questions as rare as can be", x.minutesToFade(1, 0), ConcertUsher.NONE);
        x.setTimes(59, 1, 30);
        Check.due("minutesToFade after a question that is as late as can be", x.minutesToFade(1, 0), 119);
        x.pass(59);
        Check.due("minutesToFade a minute before it", x.minutesToFade(1, 0), 60);
        x.pass(60);
        Check.due("minutesToFade faded", x.minutesToFade(1, 0), 0);
        Check.due("there is no entry though there is a listener", x.rest(1, 0), 0);
    }

    private static void minutesToQuestion() {
        ConcertUsher x = new ConcertUsher();
        Check.due("minutesToQuestion()", x.minutesToQuestion(), 10);
        x.pass(9);
        Check.due("minutesToQuestion() after 9 minutes", x.minutesToQuestion(), 1);
        x.setPresent(1, true);
        Check.due("minutesToQuestion() with chief 1", x.minutesToQuestion(), 11);
        x.pass(6);
        x.setPresent(1, false);
        Check.due("minutesToQuestion() that is due for long", x.minutesToQuestion(), 1);
        x.setTimes(20, 3, 15);
        Check.due("minutesToQuestion() just due", x.minutesToQuestion(), 1);
        x.setTimes(20, 3, 17);
        Check.due("minutesToQuestion() with a longer asking time", x.minutesToQuestion(), 2);
        x.setPresent(2, true);
        x.setTimes(20, 3, 5);
        Check.due("minutesToQuestion() of chief 2 that is due for long", x.minutesToQuestion(), 1);
        x.setTimes(20, 3, 30);
        Check.due("minutesToQuestion() of chief 2", x.minutesToQuestion(), 45);
    }

    private static void disturbedAfter() {
        ConcertUsher x = new ConcertUsher();
        x.come(0, 1);
        x.leave(0, 1, true);
        x.come(1, 1);
        x.leave(1, 1, false);
        x.come(2, 1);
        x.setOpen(3, true);
        x.setOpen(2, true);
        x.setOpen(1, true);
        Check.due("disturbedAfter(1, 1)", x.disturbedAfter(1, 1), 3);
        Check.due("disturbedAfter(1, 2)", x.disturbedAfter(1, 2), 3);
        Check.due("disturbedAfter(1, 3)", x.disturbedAfter(1, 3), 2);
        Check.due("disturbedAfter(1, 60)", x.disturbedAfter(1, 60), 2);
        x.setOpen(1, false);
        Check.due("disturbedAfter(1, 19)", x.disturbedAfter(1, 19), 2);
        Check.due("disturbedAfter(1, 20)", x.disturbedAfter(1, 20), 1);
        Check.due("disturbedAfter(5, 60)", x.disturbedAfter(5, 60), 2);
        Check.due("disturbedAfter passes no time", x.minutes(), 0);
        Check.due("disturbedAfter counts nothing", x.count(1), 0);
    }

    private static void disturbedAfterRefused() {
        ConcertUsher x = new ConcertUsher();
        x.setOpen(0, true);
        int[] concerts = {-1, 6, Integer.MIN_VALUE, Integer.MAX_VALUE};
        for (int concert : concerts) {
            Check.refused(x, "disturbedAfter(" + concert + ", 0)", IndexOutOfBoundsException.class,
                () -> x.disturbedAfter(concert, 0));
            Check.refused(x, "disturbedAfter(" + concert + ", 5)", IndexOutOfBoundsException.class,
                () -> x.disturbedAfter(concert, 5));
        }
        int[] spans = {0, 61, -1, Integer.MIN_VALUE, Integer.MAX_VALUE};
        for (int minutes : spans) {
            Check.refused(x, "disturbedAfter(0, " + minutes + ")", IllegalArgumentException.class,
                () -> x.disturbedAfter(0, minutes));
        }
    }
}
