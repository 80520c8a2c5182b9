/** The sections "Minutes" and "Playing", and promises 15 to 20: each sentence at its edges. */
public final class MinutesEdgesTest {
    public static void main(String[] args) {
        entriesFadeByOne();
        questionAtTheAskingTime();
        questionOverTheAskingTime();
        questionOfAnotherChiefAtTwiceTheAskingTime();
        questionOfAnotherChiefOverTwiceTheAskingTime();
        noQuestionOfAnotherChiefBeforeThat();
        timeRunsOnWhenTheChiefChanges();
        chiefOfTheMinuteCounts();
        questionEachMinute();
        fadingComesBeforeTheQuestion();
        callComesAfterTheFading();
        questionRenewsOnlyWhereListenersAre();
        questionMakesEntriesAgain();
        questionToNobody();
        spansAddUp();
        rowGetsAConcertOrNot();
        playChangesCountsAlone();
        countsAreOverAllConcerts();
        usefulShareOfNone();
        usefulShareOfEachKind();
        minutesAtFirst();
        Check.end("MinutesEdgesTest");
    }

    /** "For each entry, its rest decreases by 1": minute by minute, in the first place and in the last. */
    private static void entriesFadeByOne() {
        ConcertUsher x = new ConcertUsher();
        x.come(0, 0);
        x.leave(0, 0, false);
        x.come(7, 5);
        x.leave(7, 5, false);
        for (int rest = 19; rest >= 0; rest--) {
            x.pass(1);
            Check.due("rest(0, 0) a minute later", x.rest(0, 0), rest);
            Check.due("rest(7, 5) a minute later", x.rest(7, 5), rest);
            Check.due("entries() a minute later", x.entries(), rest > 0 ? 2 : 0);
        }
    }

    /** "If it is the asking time": one minute before there is none. */
    private static void questionAtTheAskingTime() {
        ConcertUsher x = new ConcertUsher();
        Check.due("pass(9)", x.pass(9), 0);
        Check.due("sinceQuestion() before", x.sinceQuestion(), 9);
        Check.due("count(3) before", x.count(3), 0);
        Check.due("pass(1)", x.pass(1), 1);
        Check.due("sinceQuestion(): this time becomes 0", x.sinceQuestion(), 0);
        Check.due("count(3) after", x.count(3), 1);
        x.pass(1);
        Check.due("sinceQuestion() a minute later", x.sinceQuestion(), 1);
    }

    /** "Or greater then": the time may be over the asking time only since that was set, or since a chief has gone. */
    private static void questionOverTheAskingTime() {
        for (int asking = 1; asking <= 30; asking++) {
            ConcertUsher x = new ConcertUsher();
            x.setTimes(20, 3, 30);
            x.pass(20);
            x.setTimes(20, 3, asking);
            Check.due("sinceQuestion() when times are set", x.sinceQuestion(), 20);
            boolean due = asking <= 21;
            Check.due("minutesToQuestion() 20 minutes since, of " + asking, x.minutesToQuestion(), due ? 1 : asking - 20);
            Check.due("pass(1) 20 minutes since, of " + asking, x.pass(1), due ? 1 : 0);
            Check.due("sinceQuestion() of " + asking, x.sinceQuestion(), due ? 0 : 21);
        }
    }

    private static void questionOfAnotherChiefAtTwiceTheAskingTime() {
        for (int usher = 1; usher <= 2; usher++) {
            ConcertUsher x = new ConcertUsher();
            x.setPresent(usher, true);
            Check.due("pass(19) with the chief " + usher, x.pass(19), 0);
            Check.due("sinceQuestion() with the chief " + usher, x.sinceQuestion(), 19);
            Check.due("count(3) with the chief " + usher, x.count(3), 0);
            Check.due("pass(1) with the chief " + usher, x.pass(1), 1);
            Check.due("sinceQuestion(): the time becomes 0", x.sinceQuestion(), 0);
            Check.due("count(3): the question of another chief counts", x.count(3), 1);
        }
    }

    private static void questionOfAnotherChiefOverTwiceTheAskingTime() {
        for (int asking = 1; asking <= 30; asking++) {
            ConcertUsher x = new ConcertUsher();
            x.setPresent(2, true);
            x.setTimes(20, 3, 30);
            x.pass(20);
            x.setTimes(20, 3, asking);
            boolean due = 2 * asking <= 21;
            int left = due ? 1 : 2 * asking - 20;
            Check.due("minutesToQuestion() 20 minutes since, of twice " + asking, x.minutesToQuestion(), left);
            Check.due("pass(1) 20 minutes since, of twice " + asking, x.pass(1), due ? 1 : 0);
            Check.due("sinceQuestion() of twice " + asking, x.sinceQuestion(), due ? 0 : 21);
        }
    }

    private static void noQuestionOfAnotherChiefBeforeThat() {
        ConcertUsher x = new ConcertUsher();
        x.pass(9);
        Check.due("setPresent(1, true) a minute before the question", x.setPresent(1, true), 1);
        Check.due("pass(1) with the chief 1", x.pass(1), 0);
        Check.due("sinceQuestion() at the asking time", x.sinceQuestion(), 10);
        Check.due("pass(9) with the chief 1", x.pass(9), 0);
        Check.due("sinceQuestion() before twice the asking time", x.sinceQuestion(), 19);
        Check.due("pass(1) with the chief 1", x.pass(1), 1);
    }

    private static void timeRunsOnWhenTheChiefChanges() {
        ConcertUsher x = new ConcertUsher();
        x.setPresent(1, true);
        x.pass(15);
        x.setPresent(2, true);
        Check.due("sinceQuestion() with a new chief", x.sinceQuestion(), 15);
        Check.due("pass(4) with a new chief", x.pass(4), 0);
        x.setPresent(2, false);
        x.setPresent(1, false);
        Check.due("sinceQuestion() of this usher", x.sinceQuestion(), 19);
        Check.due("minutesToQuestion() of this usher", x.minutesToQuestion(), 1);
        Check.due("pass(1) of this usher", x.pass(1), 1);
        Check.due("pass(9) of this usher", x.pass(9), 0);
        Check.due("pass(1) of this usher", x.pass(1), 1);
    }

    /** It is the chief asker of that minute who asks or does not, whoever was it before. */
    private static void chiefOfTheMinuteCounts() {
        ConcertUsher x = new ConcertUsher();
        x.setPresent(2, true);
        x.pass(9);
        x.setPresent(2, false);
        Check.due("pass(1) as the chief has just gone", x.pass(1), 1);
        x.pass(9);
        x.setPresent(2, true);
        Check.due("pass(1) as a chief has just come", x.pass(1), 0);
    }

    private static void questionEachMinute() {
        ConcertUsher x = new ConcertUsher();
        x.setTimes(2, 1, 1);
        x.come(0, 0);
        Check.due("pass(60) with the asking time 1", x.pass(60), 60);
        Check.due("sinceQuestion() with the asking time 1", x.sinceQuestion(), 0);
        Check.due("count(5) with the asking time 1", x.count(5), 61);
        Check.due("rest(0, 0) with the asking time 1", x.rest(0, 0), 2);
        x.setPresent(1, true);
        Check.due("pass(1) with the asking time 1 and another chief", x.pass(1), 0);
        Check.due("rest(0, 0) with the asking time 1 and another chief", x.rest(0, 0), 1);
        Check.due("pass(59) with the asking time 1 and another chief", x.pass(59), 30);
        Check.due("count(3) of both", x.count(3), 90);
    }

    /** An entry that fades in the minute of a question is there again after it, where there is a listener. */
    private static void fadingComesBeforeTheQuestion() {
        for (int fading = 2; fading <= 12; fading++) {
            ConcertUsher x = new ConcertUsher();
            x.setTimes(fading, 1, 7);
            x.come(0, 0);
            x.pass(6);
            Check.due("rest(0, 0) before the question", x.rest(0, 0), Math.max(0, fading - 6));
            x.pass(1);
            Check.due("rest(0, 0) after the question", x.rest(0, 0), fading);
            Check.due("entries() after the question", x.entries(), 1);
        }
    }

    /** A rest that a question renews is the whole fading time after that minute. */
    private static void callComesAfterTheFading() {
        ConcertUsher x = new ConcertUsher();
        x.come(0, 0);
        x.pass(10);
        Check.due("rest(0, 0) after the minute of a question", x.rest(0, 0), 20);
        x.pass(1);
        Check.due("rest(0, 0) a minute later", x.rest(0, 0), 19);
    }

    /** "For each row and concert with at least one listener, one of them calls." */
    private static void questionRenewsOnlyWhereListenersAre() {
        ConcertUsher x = new ConcertUsher();
        x.come(0, 0);
        x.come(0, 1);
        x.come(1, 0);
        x.come(7, 5);
        x.come(7, 5);
        x.leave(0, 1, false);
        x.leave(1, 0, true);
        Check.due("pass(10)", x.pass(10), 1);
        Check.due("count(5): two places call", x.count(5), 7);
        Check.due("rest(0, 0) with a listener", x.rest(0, 0), 20);
        Check.due("rest(7, 5) with two listeners", x.rest(7, 5), 20);
        Check.due("rest(0, 1) without listeners", x.rest(0, 1), 10);
        Check.due("rest(1, 0) without listeners or entry", x.rest(1, 0), 0);
    }

    private static void questionMakesEntriesAgain() {
        ConcertUsher x = new ConcertUsher();
        x.setTimes(2, 1, 10);
        x.come(3, 3);
        x.pass(9);
        Check.due("entries() faded long before the question", x.entries(), 0);
        x.pass(1);
        Check.due("entries() made by the question", x.entries(), 1);
        Check.due("rest(3, 3) made by the question", x.rest(3, 3), 2);
    }

    private static void questionToNobody() {
        ConcertUsher x = new ConcertUsher();
        Check.due("pass(10) with nobody there", x.pass(10), 1);
        Check.due("count(3) with nobody there", x.count(3), 1);
        Check.due("count(4): a general question is not one to a row", x.count(4), 0);
        Check.due("count(5) with nobody there", x.count(5), 0);
        Check.due("sinceQuestion() with nobody there", x.sinceQuestion(), 0);
    }

    private static void spansAddUp() {
        for (int first = 1; first <= 59; first++) {
            ConcertUsher x = new ConcertUsher();
            ConcertUsher y = new ConcertUsher();
            x.come(0, 0);
            y.come(0, 0);
            int questions = x.pass(first) + x.pass(60 - first);
            Check.due("questions in 60 minutes by " + first, questions, y.pass(60));
            Check.due("digest() after 60 minutes by " + first, x.digest(), y.digest());
        }
    }

    /** "It goes to each row that is open or has an entry": served, disturbed, missed, or nothing of these. */
    private static void rowGetsAConcertOrNot() {
        for (int kind = 0; kind < 8; kind++) {
            boolean open = (kind & 1) > 0;
            boolean entry = (kind & 2) > 0;
            boolean wanted = (kind & 4) > 0;
            ConcertUsher x = new ConcertUsher();
            x.setTimes(2, 1, 30);
            x.come(6, 2);
            if (!entry) {
                x.pass(2);
            }
            if (!wanted) {
                x.leave(6, 2, false);
            }
            x.setOpen(6, open);
            boolean gets = open || entry;
            String how = " open " + open + ", entry " + entry + ", wanted " + wanted;
            Check.due("rows(2)," + how, x.rows(2), gets ? 64 : 0);
            Check.due("wanted(2)," + how, x.wanted(2), wanted ? 64 : 0);
            Check.due("play(2)," + how, x.play(2), gets ? 1 : 0);
            Check.due("count(0)," + how, x.count(0), gets && wanted ? 1 : 0);
            Check.due("count(1)," + how, x.count(1), gets && !wanted ? 1 : 0);
            Check.due("count(2)," + how, x.count(2), !gets && wanted ? 1 : 0);
        }
    }

    private static void playChangesCountsAlone() {
        ConcertUsher x = new ConcertUsher();
        x.come(0, 0);
        x.pass(7);
        x.play(0);
        Check.due("rest(0, 0) after play", x.rest(0, 0), 13);
        Check.due("listeners(0, 0) after play", x.listeners(0, 0), 1);
        Check.due("minutes() after play", x.minutes(), 7);
        Check.due("sinceQuestion() after play", x.sinceQuestion(), 7);
        Check.due("count(3) after play", x.count(3), 0);
        Check.due("count(5) after play", x.count(5), 1);
        Check.due("play(0) again", x.play(0), 1);
        Check.due("count(0) of both", x.count(0), 2);
    }

    /** "All of these are counted over all concerts played." */
    private static void countsAreOverAllConcerts() {
        ConcertUsher x = new ConcertUsher();
        x.setOpen(0, true);
        for (int concert = 0; concert < 6; concert++) {
            x.come(concert, concert);
        }
        for (int concert = 0; concert < 6; concert++) {
            x.play(concert);
            Check.due("count(0) over " + (concert + 1) + " concerts", x.count(0), concert + 1);
            Check.due("count(1) over " + (concert + 1) + " concerts", x.count(1), concert);
        }
        x.setTimes(20, 3, 30);
        x.pass(20);
        for (int concert = 0; concert < 6; concert++) {
            x.play(concert);
            Check.due("count(2) over " + (concert + 1) + " more concerts", x.count(2), concert);
        }
    }

    /** "1.0 if there were none": no concert, a concert for nobody, and a concert that was only missed. */
    private static void usefulShareOfNone() {
        ConcertUsher x = new ConcertUsher();
        Check.dueShare("usefulShare() at first", x.usefulShare(), 1.0);
        x.play(0);
        Check.dueShare("usefulShare() after a concert for nobody", x.usefulShare(), 1.0);
        x.setTimes(2, 1, 30);
        x.come(0, 0);
        x.pass(2);
        x.play(0);
        Check.due("count(2)", x.count(2), 1);
        Check.dueShare("usefulShare() after a concert that was missed", x.usefulShare(), 1.0);
    }

    private static void usefulShareOfEachKind() {
        ConcertUsher served = new ConcertUsher();
        served.come(0, 0);
        served.play(0);
        Check.dueShare("usefulShare() of a served row", served.usefulShare(), 1.0);
        ConcertUsher disturbed = new ConcertUsher();
        disturbed.setOpen(0, true);
        disturbed.play(0);
        Check.dueShare("usefulShare() of a disturbed row", disturbed.usefulShare(), 0.0);
        ConcertUsher x = new ConcertUsher();
        x.setOpen(0, true);
        x.come(1, 1);
        for (int n = 1; n <= 40; n++) {
            x.play(n % 3 == 0 ? 1 : 0);
            int reached = x.count(0) + x.count(1);
            Check.dueShare("usefulShare() of " + reached, x.usefulShare(), (double) x.count(0) / (double) reached);
        }
        Check.due("count(0) of 40 concerts", x.count(0), 13);
        Check.due("count(1) of 40 concerts", x.count(1), 40);
    }

    /** "The time since the last general question (or since the beginning)." */
    private static void minutesAtFirst() {
        ConcertUsher x = new ConcertUsher();
        Check.due("minutes() at first", x.minutes(), 0);
        Check.due("sinceQuestion() at first", x.sinceQuestion(), 0);
        x.setTimes(20, 3, 30);
        x.setPresent(1, true);
        x.pass(59);
        Check.due("minutes() before the first question", x.minutes(), 59);
        Check.due("sinceQuestion() since the beginning", x.sinceQuestion(), 59);
        x.pass(1);
        Check.due("minutes() after the first question", x.minutes(), 60);
        Check.due("sinceQuestion() after the first question", x.sinceQuestion(), 0);
    }
}
