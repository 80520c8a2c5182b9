import java.util.ArrayDeque;
import java.util.Arrays;
import java.util.Deque;
import java.util.Map;
import java.util.TreeMap;
import java.util.regex.Matcher;
import java.util.regex.Pattern;

/**
 * Long runs of mixed calls, each answer compared with a second program that follows the document word by word:
 * it plays forecasts forward instead of computing them, and reads event texts by a pattern.
 */
public final class ModelTest {
    private static final int RUNS = 500;
    /** An object is used for at most 512 calls; one step takes up to 64 of them. */
    private static final int LAST_STEP = 512 - 64;

    private long seed;
    private final ConcertUsher x = new ConcertUsher();
    private Deque<Model> saved = new ArrayDeque<>();
    private Model model = new Model();
    private StringBuilder buffer = new StringBuilder();
    private String call;
    private int used;

    /** A failed call of the model; its class is what the usher must throw. */
    private static final class Refused extends Exception {
        private static final long serialVersionUID = 1;
        final Class<?> type;

        Refused(Class<?> type) {
            this.type = type;
        }
    }

    private static final class Model {
        static final Pattern TEXT = Pattern.compile("E(;E)*".replace("E",
            "([cls][0-7][0-5]|p[0-5]|t([1-9]|[1-5][0-9]|60)|o[0-7])"));
        final int[][] listeners = new int[8][6];
        final Map<Integer, Integer> entries = new TreeMap<>();
        final boolean[] open = new boolean[8];
        final boolean[] present = {true, false, false};
        final int[] counts = new int[6];
        boolean quick;
        int fading = 20;
        int patience = 3;
        int asking = 10;
        int minutes;
        int since;

        Model copy() {
            Model other = new Model();
            for (int row = 0; row < 8; row++) {
                other.listeners[row] = listeners[row].clone();
            }
            other.entries.putAll(entries);
            System.arraycopy(open, 0, other.open, 0, 8);
            System.arraycopy(present, 0, other.present, 0, 3);
            System.arraycopy(counts, 0, other.counts, 0, 6);
            other.quick = quick;
            other.fading = fading;
            other.patience = patience;
            other.asking = asking;
            other.minutes = minutes;
            other.since = since;
            return other;
        }

        int chief() {
            return present[2] ? 2 : present[1] ? 1 : 0;
        }

        void calls(int row, int concert) {
            entries.put(row * 10 + concert, fading);
            counts[5]++;
        }

        int rest(int row, int concert) {
            return entries.getOrDefault(row * 10 + concert, 0);
        }

        int come(int row, int concert) throws Refused {
            place(row, concert);
            if (listeners[row][concert] == 9) {
                throw new Refused(IllegalStateException.class);
            }
            calls(row, concert);
            return ++listeners[row][concert];
        }

        int leave(int row, int concert, boolean loud) throws Refused {
            place(row, concert);
            if (listeners[row][concert] == 0) {
                throw new Refused(IllegalStateException.class);
            }
            int left = --listeners[row][concert];
            if (loud && quick && left == 0) {
                entries.remove(row * 10 + concert);
            } else if (loud && rest(row, concert) > patience) {
                entries.put(row * 10 + concert, patience);
                counts[4]++;
                if (left > 0) {
                    calls(row, concert);
                }
            }
            return left;
        }

        int minute() {
            entries.replaceAll((place, rest) -> rest - 1);
            entries.values().removeIf(rest -> rest == 0);
            minutes++;
            since++;
            boolean mine = chief() == 0 && since >= asking;
            boolean others = chief() != 0 && since >= 2 * asking;
            if (!mine && !others) {
                return 0;
            }
            since = 0;
            counts[3]++;
            for (int row = 0; row < 8; row++) {
                for (int concert = 0; concert < 6; concert++) {
                    if (listeners[row][concert] > 0) {
                        calls(row, concert);
                    }
                }
            }
            return 1;
        }

        int pass(int span) throws Refused {
            span(span);
            int questions = 0;
            for (int n = 0; n < span; n++) {
                questions += minute();
            }
            return questions;
        }

        int play(int concert) throws Refused {
            place(0, concert);
            int gone = 0;
            for (int row = 0; row < 8; row++) {
                boolean gets = open[row] || rest(row, concert) > 0;
                boolean wants = listeners[row][concert] > 0;
                if (gets) {
                    gone++;
                    counts[wants ? 0 : 1]++;
                } else if (wants) {
                    counts[2]++;
                }
            }
            return gone;
        }

        int mask(int concert, boolean wanted) throws Refused {
            place(0, concert);
            int mask = 0;
            for (int row = 7; row >= 0; row--) {
                boolean bit = wanted ? listeners[row][concert] > 0 : open[row] || rest(row, concert) > 0;
                mask = 2 * mask + (bit ? 1 : 0);
            }
            return mask;
        }

        /** For each place the first of 0 to 150 minutes after which there is no entry, of one run played forward. */
        int[][] minutesToFade() {
            int[][] fades = new int[8][6];
            for (int[] row : fades) {
                Arrays.fill(row, -1);
            }
            Model later = copy();
            for (int n = 0; n <= 150; n++) {
                for (int place = 0; place < 48; place++) {
                    if (fades[place / 6][place % 6] < 0 && later.rest(place / 6, place % 6) == 0) {
                        fades[place / 6][place % 6] = n;
                    }
                }
                later.minute();
            }
            return fades;
        }

        int minutesToQuestion() {
            Model later = copy();
            int n = 1;
            while (later.minute() == 0) {
                n++;
            }
            return n;
        }

        int disturbedAfter(int concert, int span) throws Refused {
            place(0, concert);
            span(span);
            Model later = copy();
            later.pass(span);
            int before = later.counts[1];
            later.play(concert);
            return later.counts[1] - before;
        }

        boolean event(String event) {
            try {
                int first = event.charAt(1) - '0';
                switch (event.charAt(0)) {
                    case 'c' -> come(first, event.charAt(2) - '0');
                    case 'l' -> leave(first, event.charAt(2) - '0', true);
                    case 's' -> leave(first, event.charAt(2) - '0', false);
                    case 'p' -> play(first);
                    case 't' -> pass(Integer.parseInt(event.substring(1)));
                    default -> open[first] = !open[first];
                }
                return true;
            } catch (Refused e) {
                return false;
            }
        }

        long digest() throws Refused {
            long hash = 4701;
            int[] heads = {minutes, since, chief(), entries.size(), minutesToQuestion()};
            for (int head : heads) {
                hash = 31 * hash + head;
            }
            for (int count : counts) {
                hash = 31 * hash + count;
            }
            for (int concert = 0; concert < 6; concert++) {
                hash = 31 * hash + mask(concert, false);
                hash = 31 * hash + mask(concert, true);
            }
            int[][] fades = minutesToFade();
            for (int row = 0; row < 8; row++) {
                hash = 31 * hash + (open[row] ? 1 : 0);
                for (int concert = 0; concert < 6; concert++) {
                    hash = 31 * hash + listeners[row][concert];
                    hash = 31 * hash + rest(row, concert);
                    hash = 31 * hash + fades[row][concert];
                }
            }
            return hash;
        }

        static void place(int row, int concert) throws Refused {
            range(row, 0, 7, IndexOutOfBoundsException.class);
            range(concert, 0, 5, IndexOutOfBoundsException.class);
        }

        static void span(int span) throws Refused {
            range(span, 1, 60, IllegalArgumentException.class);
        }

        static void range(int value, int least, int greatest, Class<?> type) throws Refused {
            if (value < least || value > greatest) {
                throw new Refused(type);
            }
        }
    }

    private ModelTest(long seed) {
        this.seed = seed;
    }

    public static void main(String[] args) {
        for (int run = 1; run <= RUNS; run++) {
            if (!new ModelTest(run * 7919L).agrees()) {
                break;
            }
        }
        Check.end("ModelTest");
    }

    private boolean agrees() {
        StringBuilder told = new StringBuilder();
        int busy = draw(0, 2);
        while (used <= LAST_STEP) {
            String fault = compare(busy);
            told.append(call).append("; ");
            if (fault != null) {
                Check.tell(fault + " after: " + told);
                return false;
            }
        }
        return true;
    }

    /** A call that throws answers by its exception's name, in both programs. */
    private String compare(int busy) {
        int kind = draw(0, 26);
        int row = draw(0, 20) == 0 ? draw(-2, 10) : draw(0, busy == 0 ? 7 : busy);
        int concert = draw(0, 20) == 0 ? draw(-2, 8) : draw(0, busy == 0 ? 5 : busy);
        int span = draw(0, 20) == 0 ? draw(-2, 65) : draw(1, draw(0, 3) == 0 ? 60 : 6);
        boolean flag = draw(0, 1) == 1;
        int[] times = {draw(0, 3) > 0 ? draw(2, 60) : draw(0, 63), draw(0, 3) > 0 ? draw(1, 10) : draw(-1, 12),
            draw(0, 3) > 0 ? draw(1, 30) : draw(-1, 32)};
        String text = drawText(draw(0, 9));
        call = kind + "(" + row + ", " + concert + ", " + span + ", " + flag + ", " + times[0] + ", " + times[1] + ", "
            + times[2] + ", " + text + ")";
        if (kind >= 24) {
            appendToBoth(text);
        }
        used += 5;
        Object want;
        try {
            want = ofModel(kind, row, concert, span, flag, times);
        } catch (Refused e) {
            want = e.type.getName();
        }
        Object got;
        try {
            got = ofUsher(kind, row, concert, span, flag, times);
        } catch (RuntimeException e) {
            got = e.getClass().getName();
        }
        if (!got.equals(want)) {
            return "answer " + got + ", due is " + want;
        }
        return compareStates();
    }

    private String compareStates() {
        try {
            if (x.digest() != model.digest()) {
                return "digest() is not as due";
            }
        } catch (Refused e) {
            return "the model is wrong";
        }
        if (x.savedStates() != saved.size()) {
            return "savedStates() " + x.savedStates() + ", due is " + saved.size();
        }
        if (x.firstError() != firstError()) {
            return "firstError() " + x.firstError() + ", due is " + firstError() + " of " + buffer;
        }
        return null;
    }

    private int firstError() {
        for (int n = 1; n <= buffer.length(); n++) {
            Matcher matcher = Model.TEXT.matcher(buffer.substring(0, n));
            if (!matcher.matches() && !matcher.hitEnd()) {
                return n - 1;
            }
        }
        return buffer.length();
    }

    private void save(Model before) {
        saved.addLast(before);
        if (saved.size() > 6) {
            saved.removeFirst();
        }
    }

    private Object ofModel(int kind, int row, int concert, int span, boolean flag, int[] times) throws Refused {
        Model before = model.copy();
        Object answer = null;
        switch (kind) {
            case 0, 1, 2, 3 -> answer = model.come(row, concert);
            case 4, 5, 6 -> answer = model.leave(row, concert, flag);
            case 7 -> {
                Model.place(row, 0);
                answer = model.open[row];
                model.open[row] = flag;
            }
            case 8 -> {
                answer = model.quick;
                model.quick = flag;
            }
            case 9 -> {
                Model.range(times[0], 2, 60, IllegalArgumentException.class);
                Model.range(times[1], 1, 10, IllegalArgumentException.class);
                Model.range(times[2], 1, 30, IllegalArgumentException.class);
                answer = model.fading;
                model.fading = times[0];
                model.patience = times[1];
                model.asking = times[2];
            }
            case 10 -> {
                Model.range(row, 1, 2, IndexOutOfBoundsException.class);
                model.present[row] = flag;
                answer = model.chief();
            }
            case 11, 12, 13 -> answer = model.pass(span);
            case 14, 15 -> answer = model.play(concert);
            default -> {
                return ofModelUnsaved(kind, row, concert, span);
            }
        }
        save(before);
        return answer;
    }

    private Object ofModelUnsaved(int kind, int row, int concert, int span) throws Refused {
        switch (kind) {
            case 16 -> {
                Model.place(row, concert);
                return model.listeners[row][concert] * 100 + model.rest(row, concert);
            }
            case 17 -> {
                return model.mask(concert, true) * 1000 + model.mask(concert, false);
            }
            case 18 -> {
                Model.range(concert, 0, 5, IndexOutOfBoundsException.class);
                return model.counts[concert];
            }
            case 19 -> {
                int all = model.counts[0] + model.counts[1];
                return all == 0 ? 1.0 : (double) model.counts[0] / all;
            }
            case 20 -> {
                return model.disturbedAfter(concert, span);
            }
            case 21 -> {
                if (saved.isEmpty()) {
                    throw new Refused(IllegalStateException.class);
                }
                model = saved.removeLast();
                return saved.size();
            }
            default -> {
                return ofModelText(kind);
            }
        }
    }

    private Object ofModelText(int kind) throws Refused {
        if (kind <= 23) {
            int length = buffer.length();
            buffer.setLength(0);
            return length;
        }
        if (kind >= 25) {
            return firstError();
        }
        if (!Model.TEXT.matcher(buffer).matches()) {
            throw new Refused(IllegalArgumentException.class);
        }
        save(model.copy());
        int done = 0;
        for (String event : buffer.toString().split(";")) {
            if (!model.event(event)) {
                break;
            }
            done++;
        }
        buffer.setLength(0);
        return done;
    }

    private Object ofUsher(int kind, int row, int concert, int span, boolean flag, int[] times) {
        return switch (kind) {
            case 0, 1, 2, 3 -> x.come(row, concert);
            case 4, 5, 6 -> x.leave(row, concert, flag);
            case 7 -> x.setOpen(row, flag);
            case 8 -> x.setQuick(flag);
            case 9 -> x.setTimes(times[0], times[1], times[2]);
            case 10 -> x.setPresent(row, flag);
            case 11, 12, 13 -> x.pass(span);
            case 14, 15 -> x.play(concert);
            case 16 -> x.listeners(row, concert) * 100 + x.rest(row, concert);
            case 17 -> x.wanted(concert) * 1000 + x.rows(concert);
            case 18 -> x.count(concert);
            case 19 -> (Object) x.usefulShare();
            case 20 -> x.disturbedAfter(concert, span);
            case 21 -> x.undo();
            case 22, 23 -> x.clearText();
            case 24 -> x.run();
            default -> x.firstError();
        };
    }

    private void appendToBoth(String text) {
        for (int n = 0; n < text.length() && buffer.length() < 60; n++) {
            buffer.append(text.charAt(n));
            x.append(text.charAt(n));
            used++;
        }
    }

    private String drawText(int events) {
        StringBuilder text = new StringBuilder();
        for (int n = 0; n < events; n++) {
            text.append(n == 0 ? "" : ";");
            switch (draw(0, 5)) {
                case 0, 1 -> text.append('c').append(draw(0, 7)).append(draw(0, 5));
                case 2 -> text.append(draw(0, 1) == 0 ? 'l' : 's').append(draw(0, 1)).append(draw(0, 1));
                case 3 -> text.append('p').append(draw(0, 5));
                case 4 -> text.append('t').append(draw(1, 60));
                default -> text.append('o').append(draw(0, 7));
            }
        }
        if (text.length() > 0 && draw(0, 2) == 0) {
            text.setCharAt(draw(0, text.length() - 1), "clspto;0156789x".charAt(draw(0, 14)));
        }
        return text.toString();
    }

    private int draw(int least, int greatest) {
        seed = seed * 6364136223846793005L + 1442695040888963407L;
        return least + (int) ((seed >>> 33) % (greatest - least + 1));
    }
}
