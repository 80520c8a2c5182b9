/** The section "What the usher knows": each sentence on calls, farewells and ushers, at its edges. */
public final class FarewellEdgesTest {
    public static void main(String[] args) {
        callMakesAnEntry();
        callRenewsARestOfEachLength();
        callShortensARestOverTheFadingTime();
        callOfAnotherPlace();
        farewellWithoutEntry();
        farewellWithARestAroundThePatience();
        farewellToOthersWithARestAroundThePatience();
        farewellWithoutAnswerIsAQuestion();
        farewellWithAPatienceOverTheFadingTime();
        silentLeaving();
        silentLeavingOfTheLast();
        notQuickAtFirst();
        quickWithARestAroundThePatience();
        quickWithoutEntry();
        quickWithOthersThere();
        quickWithOthersElsewhere();
        quickInAnOpenRow();
        restsStayWhenTimesAreSet();
        refusedTimesSetNone();
        allPresences();
        Check.end("FarewellEdgesTest");
    }

    /** The rest that is asked for, and a number of listeners, in a place of a new usher with the fading time 60. */
    private static ConcertUsher withRest(int rest, int listeners, int patience) {
        ConcertUsher x = new ConcertUsher();
        x.setTimes(Math.max(2, rest), patience, 30);
        for (int n = 0; n < listeners; n++) {
            x.come(2, 4);
        }
        if (rest == 1) {
            x.pass(1);
        }
        Check.due("rest(2, 4) to start from", x.rest(2, 4), rest);
        x.setTimes(60, patience, 30);
        return x;
    }

    /** "The entry for the row and the concert is made, if there is none." */
    private static void callMakesAnEntry() {
        ConcertUsher x = new ConcertUsher();
        Check.due("entries() before a call", x.entries(), 0);
        x.come(2, 4);
        Check.due("entries() after a call", x.entries(), 1);
        Check.due("rest(2, 4) after a call", x.rest(2, 4), 20);
        x.setTimes(2, 3, 30);
        x.come(2, 4);
        x.pass(2);
        Check.due("entries() faded", x.entries(), 0);
        x.come(2, 4);
        Check.due("entries() after a call to a faded one", x.entries(), 1);
        Check.due("rest(2, 4) after a call to a faded one", x.rest(2, 4), 2);
    }

    /** "In any case its rest becomes the fading time." */
    private static void callRenewsARestOfEachLength() {
        for (int rest = 1; rest <= 60; rest++) {
            ConcertUsher x = withRest(rest, 1, 3);
            x.come(2, 4);
            Check.due("rest(2, 4) after a call to a rest of " + rest, x.rest(2, 4), 60);
            Check.due("entries() after a call to a rest of " + rest, x.entries(), 1);
        }
    }

    private static void callShortensARestOverTheFadingTime() {
        for (int fading = 2; fading <= 60; fading++) {
            ConcertUsher x = withRest(60, 1, 3);
            x.setTimes(fading, 3, 30);
            Check.due("rest(2, 4) before a call", x.rest(2, 4), 60);
            x.come(2, 4);
            Check.due("rest(2, 4) after a call with the fading time " + fading, x.rest(2, 4), fading);
        }
    }

    private static void callOfAnotherPlace() {
        ConcertUsher x = withRest(9, 1, 3);
        x.come(2, 3);
        x.come(2, 5);
        x.come(1, 4);
        x.come(3, 4);
        Check.due("rest(2, 4) after calls of its neighbours", x.rest(2, 4), 9);
        Check.due("entries() after calls of neighbours", x.entries(), 5);
    }

    /** "If there is an entry for the row and the concert": without one nobody is asked, so nobody calls. */
    private static void farewellWithoutEntry() {
        for (int listeners = 1; listeners <= 2; listeners++) {
            ConcertUsher x = withRest(2, listeners, 1);
            x.pass(2);
            int calls = x.count(5);
            x.leave(2, 4, true);
            Check.due("rest(2, 4) after a farewell without entry", x.rest(2, 4), 0);
            Check.due("count(4) after a farewell without entry", x.count(4), 0);
            Check.due("count(5) after a farewell without entry", x.count(5), calls);
        }
    }

    /** "And its rest is greater than the patience, the rest becomes the patience": with nobody left to answer. */
    private static void farewellWithARestAroundThePatience() {
        for (int patience = 1; patience <= 10; patience++) {
            for (int rest = 1; rest <= 12; rest++) {
                ConcertUsher x = withRest(rest, 1, patience);
                x.leave(2, 4, true);
                String how = " after a farewell with a rest of " + rest + " and the patience " + patience;
                Check.due("rest(2, 4)" + how, x.rest(2, 4), Math.min(rest, patience));
                Check.due("count(4)" + how, x.count(4), rest > patience ? 1 : 0);
                Check.due("count(5)" + how, x.count(5), 1);
            }
        }
    }

    /** "If there are still listeners there, one of them calls at once (so the rest becomes the fading time)." */
    private static void farewellToOthersWithARestAroundThePatience() {
        for (int patience = 1; patience <= 10; patience++) {
            for (int rest = 1; rest <= 12; rest++) {
                ConcertUsher x = withRest(rest, 3, patience);
                x.leave(2, 4, true);
                String how = " after a farewell to two with a rest of " + rest + " and the patience " + patience;
                Check.due("rest(2, 4)" + how, x.rest(2, 4), rest > patience ? 60 : rest);
                Check.due("count(4)" + how, x.count(4), rest > patience ? 1 : 0);
                Check.due("count(5)" + how, x.count(5), rest > patience ? 4 : 3);
            }
        }
    }

    /** The usher asks also where nobody is left; only the second of two questions is answered by nobody. */
    private static void farewellWithoutAnswerIsAQuestion() {
        ConcertUsher x = withRest(20, 2, 3);
        x.leave(2, 4, true);
        Check.due("count(4) with an answer", x.count(4), 1);
        Check.due("count(5) with an answer", x.count(5), 3);
        x.leave(2, 4, true);
        Check.due("count(4) without an answer", x.count(4), 2);
        Check.due("count(5) without an answer", x.count(5), 3);
        Check.due("entries(): the entry waits as long as the patience", x.entries(), 1);
    }

    private static void farewellWithAPatienceOverTheFadingTime() {
        ConcertUsher x = new ConcertUsher();
        x.setTimes(5, 5, 30);
        x.come(2, 4);
        x.leave(2, 4, true);
        Check.due("count(4) with a patience as long as the fading time", x.count(4), 0);
        Check.due("rest(2, 4) with a patience as long as the fading time", x.rest(2, 4), 5);
        x.setTimes(2, 10, 30);
        x.come(2, 4);
        x.leave(2, 4, true);
        Check.due("count(4) with a patience over the fading time", x.count(4), 0);
        Check.due("rest(2, 4) with a patience over the fading time", x.rest(2, 4), 2);
    }

    /** "When a listener leaves silently, nothing else happens": to a rest of each length, with others there. */
    private static void silentLeaving() {
        for (int rest = 1; rest <= 12; rest++) {
            ConcertUsher x = withRest(rest, 2, 3);
            Check.due("leave(2, 4, false)", x.leave(2, 4, false), 1);
            Check.due("rest(2, 4) after silent leaving", x.rest(2, 4), rest);
            Check.due("count(4) after silent leaving", x.count(4), 0);
            Check.due("count(5) after silent leaving", x.count(5), 2);
        }
    }

    private static void silentLeavingOfTheLast() {
        for (int quick = 0; quick <= 1; quick++) {
            ConcertUsher x = withRest(7, 1, 3);
            x.setQuick(quick == 1);
            Check.due("leave(2, 4, false)", x.leave(2, 4, false), 0);
            Check.due("rest(2, 4) after silent leaving of the last", x.rest(2, 4), 7);
            Check.due("entries() after silent leaving of the last", x.entries(), 1);
            Check.due("wanted(4) after silent leaving of the last", x.wanted(4), 0);
            Check.due("rows(4) after silent leaving of the last", x.rows(4), 4);
        }
    }

    /** "The usher is quick or not, at first not." */
    private static void notQuickAtFirst() {
        ConcertUsher x = new ConcertUsher();
        x.come(2, 4);
        x.leave(2, 4, true);
        Check.due("rest(2, 4): the usher is not quick at first", x.rest(2, 4), 3);
        Check.due("setQuick(true): not quick at first", x.setQuick(true), false);
        x.come(2, 4);
        x.leave(2, 4, true);
        Check.due("rest(2, 4): the usher is quick", x.rest(2, 4), 0);
        Check.due("setQuick(false)", x.setQuick(false), true);
        x.come(2, 4);
        x.leave(2, 4, true);
        Check.due("rest(2, 4): the usher is not quick any more", x.rest(2, 4), 3);
    }

    /** "The entry is removed at once, without a question." */
    private static void quickWithARestAroundThePatience() {
        for (int patience = 1; patience <= 10; patience++) {
            for (int rest = 1; rest <= 12; rest++) {
                ConcertUsher x = withRest(rest, 1, patience);
                x.setQuick(true);
                x.leave(2, 4, true);
                String how = " of a quick usher with a rest of " + rest + " and the patience " + patience;
                Check.due("rest(2, 4)" + how, x.rest(2, 4), 0);
                Check.due("entries()" + how, x.entries(), 0);
                Check.due("count(4)" + how, x.count(4), 0);
                Check.due("count(5)" + how, x.count(5), 1);
            }
        }
    }

    private static void quickWithoutEntry() {
        ConcertUsher x = withRest(2, 2, 1);
        x.setQuick(true);
        x.pass(2);
        Check.due("leave(2, 4, true) without entry", x.leave(2, 4, true), 1);
        Check.due("leave(2, 4, true) without entry", x.leave(2, 4, true), 0);
        Check.due("entries() of a quick usher without entry", x.entries(), 0);
        Check.due("count(4) of a quick usher without entry", x.count(4), 0);
    }

    /** "From a row where nobody else wants the concert": with others there the farewell is like any other. */
    private static void quickWithOthersThere() {
        for (int rest = 1; rest <= 12; rest++) {
            ConcertUsher x = withRest(rest, 2, 3);
            x.setQuick(true);
            x.leave(2, 4, true);
            Check.due("rest(2, 4) of a quick usher with another there", x.rest(2, 4), rest > 3 ? 60 : rest);
            Check.due("count(4) of a quick usher with another there", x.count(4), rest > 3 ? 1 : 0);
            Check.due("count(5) of a quick usher with another there", x.count(5), rest > 3 ? 3 : 2);
        }
    }

    /** Who wants another concert, or this one in another row, is not there. */
    private static void quickWithOthersElsewhere() {
        ConcertUsher x = new ConcertUsher();
        x.setQuick(true);
        x.come(2, 4);
        x.come(2, 3);
        x.come(2, 5);
        x.come(1, 4);
        x.come(3, 4);
        x.leave(2, 4, true);
        Check.due("rest(2, 4) of a quick usher with others elsewhere", x.rest(2, 4), 0);
        Check.due("entries() of a quick usher with others elsewhere", x.entries(), 4);
        Check.due("count(4) of a quick usher with others elsewhere", x.count(4), 0);
    }

    private static void quickInAnOpenRow() {
        ConcertUsher x = new ConcertUsher();
        x.setQuick(true);
        x.setOpen(2, true);
        x.come(2, 4);
        x.leave(2, 4, true);
        Check.due("entries() of a quick usher in an open row", x.entries(), 0);
        Check.due("rows(4) of a quick usher in an open row", x.rows(4), 4);
    }

    /** "The rests of entries stay", though they are over the fading time or over the patience. */
    private static void restsStayWhenTimesAreSet() {
        ConcertUsher x = new ConcertUsher();
        x.setTimes(60, 10, 30);
        x.come(0, 0);
        x.come(7, 5);
        x.leave(7, 5, true);
        x.setTimes(2, 1, 1);
        Check.due("rest(0, 0) with a shorter fading time", x.rest(0, 0), 60);
        Check.due("rest(7, 5) with a shorter patience", x.rest(7, 5), 10);
        x.setTimes(60, 10, 30);
        x.come(1, 1);
        x.setTimes(59, 10, 30);
        Check.due("rest(1, 1) with a fading time one less", x.rest(1, 1), 60);
        x.leave(1, 1, false);
        x.pass(60);
        Check.due("rest(1, 1) after as many minutes", x.rest(1, 1), 0);
    }

    /** Also the times that are in range stay when another is out of range. */
    private static void refusedTimesSetNone() {
        int[][] wrong = {{61, 7, 7}, {1, 7, 7}, {7, 11, 7}, {7, 0, 7}, {7, 7, 31}, {7, 7, 0}};
        for (int[] times : wrong) {
            ConcertUsher x = new ConcertUsher();
            Check.refused(x, "setTimes", IllegalArgumentException.class,
                () -> x.setTimes(times[0], times[1], times[2]));
            Check.due("minutesToQuestion() after refused setTimes", x.minutesToQuestion(), 10);
            x.come(0, 0);
            Check.due("rest(0, 0) after refused setTimes", x.rest(0, 0), 20);
            x.leave(0, 0, true);
            Check.due("rest(0, 0) after refused setTimes and a farewell", x.rest(0, 0), 3);
            Check.due("setTimes after refused setTimes", x.setTimes(2, 1, 1), 20);
        }
    }

    /** "The chief asker is the present usher with the greatest number." */
    private static void allPresences() {
        for (int both = 0; both < 4; both++) {
            for (int usher = 1; usher <= 2; usher++) {
                for (int present = 0; present <= 1; present++) {
                    boolean first = usher == 1 ? present == 1 : both % 2 == 1;
                    boolean second = usher == 2 ? present == 1 : both / 2 == 1;
                    int due = second ? 2 : first ? 1 : 0;
                    ConcertUsher x = new ConcertUsher();
                    x.setPresent(1, both % 2 == 1);
                    x.setPresent(2, both / 2 == 1);
                    String call = "setPresent(" + usher + ", " + (present == 1) + ") to " + both;
                    Check.due(call, x.setPresent(usher, present == 1), due);
                    Check.due("chief() after " + call, x.chief(), due);
                }
            }
        }
    }
}
