/** What the tests share: comparing answers, exceptions, and the state before and after a refused call. */
final class Check {
    private static int wrong = 0;

    interface Call {
        void go();
    }

    static void due(String what, long got, long want) {
        if (got != want) {
            tell(what + " answered " + got + ", due is " + want);
        }
    }

    static void due(String what, boolean got, boolean want) {
        if (got != want) {
            tell(what + " answered " + got + ", due is " + want);
        }
    }

    static void dueShare(String what, double got, double want) {
        if (Double.compare(got, want) != 0) {
            tell(what + " answered " + got + ", due is " + want);
        }
    }

    static void tell(String fault) {
        wrong++;
        System.out.println(fault);
    }

    /** The call must throw just this class, and leave digest, saved states and buffer as they were. */
    static void refused(ConcertUsher x, String what, Class<?> want, Call call) {
        long digest = x.digest();
        int saved = x.savedStates();
        int error = x.firstError();
        Class<?> got = null;
        try {
            call.go();
        } catch (RuntimeException e) {
            got = e.getClass();
        }
        if (got != want) {
            tell(what + " threw " + got + ", due is " + want);
        }
        due("digest() after refused " + what, x.digest(), digest);
        due("savedStates() after refused " + what, x.savedStates(), saved);
        due("firstError() after refused " + what, x.firstError(), error);
    }

    /** The call must save one state, even if nothing changes, and undo must bring back the digest from before it. */
    static void undoable(ConcertUsher x, String what, Call call) {
        long digest = x.digest();
        int saved = Math.min(6, x.savedStates() + 1);
        call.go();
        due("savedStates() after " + what, x.savedStates(), saved);
        due("undo() after " + what, x.undo(), saved - 1);
        due("digest() after undone " + what, x.digest(), digest);
    }

    static void write(ConcertUsher x, String text) {
        for (int i = 0; i < text.length(); i++) {
            x.append(text.charAt(i));
        }
    }

    static int runText(ConcertUsher x, String text) {
        x.clearText();
        write(x, text);
        return x.run();
    }

    /** The number next to each end of a range, the least and the greatest int, and what a byte or a char would wrap. */
    static int[] beyond(int least, int greatest) {
        return new int[] {least - 1, greatest + 1, Integer.MIN_VALUE, Integer.MAX_VALUE, Integer.MIN_VALUE + least,
            least + 256, greatest + 65536, greatest - 65536};
    }

    static void same(String what, String got, String want) {
        if (!got.equals(want)) {
            tell(what + " is not as due:\n" + got + "\ndue is\n" + want);
        }
    }

    static void end(String name) {
        if (wrong > 0) {
            System.out.println(name + ": " + wrong + " answers are not as due");
            System.exit(1);
        }
    }

    private Check() {
    }
}
