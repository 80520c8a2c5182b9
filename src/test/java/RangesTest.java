/** Each number that an argument's range takes, from the least to the greatest, does what it stands for. */
public final class RangesTest {
    public static void main(String[] args) {
        everyPlaceIsOnItsOwn();
        everyRowOpensOnItsOwn();
        everyConcertIsPlayed();
        everyFadingTime();
        everyPatience();
        everyAskingTime();
        everyAskingTimeOfAnotherChief();
        everyUsher();
        everySpan();
        everySpanOfAForecast();
        everyCount();
        everyCode();
        everyEventOfAText();
        everySpanOfAText();
        Check.end("RangesTest");
    }

    /** "There are eight rows, numbered from 0, and six concerts": none of the 48 places stands for another. */
    private static void everyPlaceIsOnItsOwn() {
        for (int row = 0; row < 8; row++) {
            for (int concert = 0; concert < 6; concert++) {
                ConcertUsher x = new ConcertUsher();
                Check.due("come(" + row + ", " + concert + ")", x.come(row, concert), 1);
                onlyPlace(x, row, concert, 1, 20, -1);
                Check.due("leave(" + row + ", " + concert + ", true)", x.leave(row, concert, true), 0);
                onlyPlace(x, row, concert, 0, 3, 3);
            }
        }
    }

    private static void onlyPlace(ConcertUsher x, int row, int concert, int listeners, int rest, int fades) {
        for (int place = 0; place < 48; place++) {
            int r = place / 6;
            int c = place % 6;
            boolean here = r == row && c == concert;
            String at = "(" + r + ", " + c + ") when all is at (" + row + ", " + concert + ")";
            Check.due("listeners" + at, x.listeners(r, c), here ? listeners : 0);
            Check.due("rest" + at, x.rest(r, c), here ? rest : 0);
            Check.due("minutesToFade" + at, x.minutesToFade(r, c), here ? fades : 0);
        }
        for (int c = 0; c < 6; c++) {
            Check.due("rows(" + c + ")", x.rows(c), c == concert ? 1 << row : 0);
            Check.due("wanted(" + c + ")", x.wanted(c), c == concert && listeners > 0 ? 1 << row : 0);
        }
        Check.due("entries()", x.entries(), 1);
    }

    /** "A row is open or not, at first not: an open row gets all concerts." */
    private static void everyRowOpensOnItsOwn() {
        for (int row = 0; row < 8; row++) {
            ConcertUsher x = new ConcertUsher();
            Check.due("setOpen(" + row + ", true)", x.setOpen(row, true), false);
            for (int r = 0; r < 8; r++) {
                Check.due("isOpen(" + r + ") when " + row + " is open", x.isOpen(r), r == row);
            }
            for (int concert = 0; concert < 6; concert++) {
                Check.due("rows(" + concert + ") when " + row + " is open", x.rows(concert), 1 << row);
                Check.due("wanted(" + concert + ") when " + row + " is open", x.wanted(concert), 0);
                Check.due("play(" + concert + ") when " + row + " is open", x.play(concert), 1);
            }
            Check.due("entries() when " + row + " is open", x.entries(), 0);
            Check.due("setOpen(" + row + ", false)", x.setOpen(row, false), true);
            Check.due("isOpen(" + row + ") when it is closed", x.isOpen(row), false);
        }
    }

    private static void everyConcertIsPlayed() {
        for (int concert = 0; concert < 6; concert++) {
            ConcertUsher x = new ConcertUsher();
            x.come(0, concert);
            x.come(7, concert);
            for (int other = 0; other < 6; other++) {
                Check.due("play(" + other + ") when " + concert + " is wanted", x.play(other), other == concert ? 2 : 0);
            }
        }
    }

    /** "The fading time is 2 to 60, at first 20." */
    private static void everyFadingTime() {
        ConcertUsher x = new ConcertUsher();
        int previous = 20;
        for (int fading = 2; fading <= 60; fading++) {
            Check.due("setTimes(" + fading + ", 1, 30)", x.setTimes(fading, 1, 30), previous);
            previous = fading;
            x.come(0, 0);
            x.leave(0, 0, false);
            Check.due("rest(0, 0) with the fading time " + fading, x.rest(0, 0), fading);
        }
    }

    /** "The patience is 1 to 10, at first 3." */
    private static void everyPatience() {
        ConcertUsher x = new ConcertUsher();
        x.come(0, 0);
        x.leave(0, 0, true);
        Check.due("rest(0, 0) with the patience at first", x.rest(0, 0), 3);
        for (int patience = 1; patience <= 10; patience++) {
            x.setTimes(60, patience, 30);
            x.come(0, 0);
            x.leave(0, 0, true);
            Check.due("rest(0, 0) with the patience " + patience, x.rest(0, 0), patience);
        }
    }

    /** "The asking time is 1 to 30, at first 10." */
    private static void everyAskingTime() {
        ConcertUsher first = new ConcertUsher();
        Check.due("pass(9) with the asking time at first", first.pass(9), 0);
        Check.due("pass(1) with the asking time at first", first.pass(1), 1);
        for (int asking = 1; asking <= 30; asking++) {
            ConcertUsher x = new ConcertUsher();
            x.setTimes(20, 3, asking);
            asksEvery(x, asking, "the asking time " + asking);
        }
    }

    /** "If the time is 2 times the asking time or greater." */
    private static void everyAskingTimeOfAnotherChief() {
        for (int usher = 1; usher <= 2; usher++) {
            for (int asking = 1; asking <= 30; asking++) {
                ConcertUsher x = new ConcertUsher();
                x.setPresent(usher, true);
                x.setTimes(20, 3, asking);
                asksEvery(x, 2 * asking, "the asking time " + asking + " and the chief " + usher);
            }
        }
    }

    private static void asksEvery(ConcertUsher x, int time, String how) {
        for (int round = 1; round <= 2; round++) {
            Check.due("minutesToQuestion() with " + how, x.minutesToQuestion(), time);
            if (time > 1) {
                Check.due("pass to the minute before with " + how, x.pass(time - 1), 0);
                Check.due("sinceQuestion() with " + how, x.sinceQuestion(), time - 1);
            }
            Check.due("count(3) before with " + how, x.count(3), round - 1);
            Check.due("pass to the question with " + how, x.pass(1), 1);
            Check.due("sinceQuestion() after a question with " + how, x.sinceQuestion(), 0);
            Check.due("count(3) after with " + how, x.count(3), round);
        }
    }

    private static void everyUsher() {
        for (int usher = 1; usher <= 2; usher++) {
            ConcertUsher x = new ConcertUsher();
            Check.due("setPresent(" + usher + ", true)", x.setPresent(usher, true), usher);
            Check.due("chief()", x.chief(), usher);
            Check.due("setPresent(" + usher + ", false)", x.setPresent(usher, false), 0);
            Check.due("chief()", x.chief(), 0);
        }
    }

    /** pass: "minutes: 1 to 60". */
    private static void everySpan() {
        for (int minutes = 1; minutes <= 60; minutes++) {
            ConcertUsher x = new ConcertUsher();
            x.come(0, 0);
            x.come(7, 5);
            x.leave(7, 5, false);
            Check.due("pass(" + minutes + ")", x.pass(minutes), minutes / 10);
            Check.due("minutes() after pass(" + minutes + ")", x.minutes(), minutes);
            Check.due("sinceQuestion() after pass(" + minutes + ")", x.sinceQuestion(), minutes % 10);
            Check.due("count(3) after pass(" + minutes + ")", x.count(3), minutes / 10);
            Check.due("count(5) after pass(" + minutes + ")", x.count(5), 2 + minutes / 10);
            Check.due("rest(0, 0) after pass(" + minutes + ")", x.rest(0, 0), 20 - minutes % 10);
            Check.due("rest(7, 5) after pass(" + minutes + ")", x.rest(7, 5), Math.max(0, 20 - minutes));
        }
    }

    /** disturbedAfter: "concert: 0 to 5", "minutes: 1 to 60". */
    private static void everySpanOfAForecast() {
        for (int concert = 0; concert < 6; concert++) {
            ConcertUsher x = new ConcertUsher();
            x.setTimes(60, 3, 30);
            x.come(7, concert);
            x.leave(7, concert, false);
            x.setTimes(21, 3, 30);
            x.come(0, concert);
            x.leave(0, concert, false);
            for (int minutes = 1; minutes <= 60; minutes++) {
                int due = (minutes < 60 ? 1 : 0) + (minutes < 21 ? 1 : 0);
                String call = "disturbedAfter(" + concert + ", " + minutes + ")";
                Check.due(call, x.disturbedAfter(concert, minutes), due);
            }
            Check.due("disturbedAfter of another concert", x.disturbedAfter((concert + 1) % 6, 1), 0);
        }
    }

    /** Each count goes up by its own cause and by nothing else. */
    private static void everyCount() {
        ConcertUsher x = new ConcertUsher();
        counts(x, "a new object", 0, 0, 0, 0, 0, 0);
        x.come(0, 0);
        counts(x, "come", 0, 0, 0, 0, 0, 1);
        x.play(0);
        counts(x, "play to a listener", 1, 0, 0, 0, 0, 1);
        x.setOpen(1, true);
        x.play(1);
        counts(x, "play to nobody", 1, 1, 0, 0, 0, 1);
        x.leave(0, 0, true);
        counts(x, "a farewell of the last", 1, 1, 0, 0, 1, 1);
        x.pass(10);
        counts(x, "a general question to nobody", 1, 1, 0, 1, 1, 1);
        x.setTimes(2, 1, 30);
        x.come(2, 2);
        x.pass(2);
        x.play(2);
        counts(x, "play that a row misses", 1, 2, 1, 1, 1, 2);
        x.come(2, 2);
        x.leave(2, 2, true);
        counts(x, "a farewell with another there", 1, 2, 1, 1, 2, 4);
        x.leave(2, 2, false);
        counts(x, "silent leaving", 1, 2, 1, 1, 2, 4);
        x.come(2, 2);
        x.pass(28);
        counts(x, "a general question to one", 1, 2, 1, 2, 2, 6);
    }

    private static void counts(ConcertUsher x, String after, int... due) {
        for (int what = 0; what < 6; what++) {
            Check.due("count(" + what + ") after " + after, x.count(what), due[what]);
        }
    }

    /** append: "code: a character code, 33 to 126". */
    private static void everyCode() {
        for (int code = 33; code <= 126; code++) {
            ConcertUsher x = new ConcertUsher();
            boolean begins = "clspto".indexOf(code) >= 0;
            Check.due("append(" + code + ")", x.append(code), 1);
            Check.due("firstError() of " + code, x.firstError(), begins ? 1 : 0);
            Check.due("append(" + code + ") again", x.append(code), 2);
            Check.due("firstError() of twice " + code, x.firstError(), begins ? 1 : 0);
            Check.due("clearText() of twice " + code, x.clearText(), 2);
        }
    }

    /** "A row is a digit from 0 to 7, a concert is a digit from 0 to 5." */
    private static void everyEventOfAText() {
        for (int row = 0; row < 8; row++) {
            for (int concert = 0; concert < 6; concert++) {
                ConcertUsher x = new ConcertUsher();
                String place = "" + row + concert;
                Check.due("run() of c" + place, Check.runText(x, "c" + place), 1);
                onlyPlace(x, row, concert, 1, 20, -1);
                Check.due("run() of p" + concert, Check.runText(x, "p" + concert), 1);
                Check.due("count(0) after p" + concert, x.count(0), 1);
                Check.due("run() of l" + place, Check.runText(x, "l" + place), 1);
                onlyPlace(x, row, concert, 0, 3, 3);
                Check.due("run() of c, s" + place, Check.runText(x, "c" + place + ";s" + place), 2);
                onlyPlace(x, row, concert, 0, 20, 20);
            }
            ConcertUsher x = new ConcertUsher();
            Check.due("run() of o" + row, Check.runText(x, "o" + row), 1);
            Check.due("rows(3) after o" + row, x.rows(3), 1 << row);
        }
    }

    /** "A number from 1 to 60, without leading zeros": at the end of a text, and with an event after it. */
    private static void everySpanOfAText() {
        for (int minutes = 1; minutes <= 60; minutes++) {
            ConcertUsher x = new ConcertUsher();
            Check.due("run() of t" + minutes, Check.runText(x, "t" + minutes), 1);
            Check.due("minutes() after t" + minutes, x.minutes(), minutes);
            Check.due("count(3) after t" + minutes, x.count(3), minutes / 10);
            Check.due("run() of t" + minutes + ";t1", Check.runText(x, "t" + minutes + ";t1"), 2);
            Check.due("minutes() after t" + minutes + " and t1", x.minutes(), 2 * minutes + 1);
        }
    }
}
