/**
 * An usher between a stage and eight rows of seats who learns which rows want a concert.
 * The promises that the methods keep are numbered in ../shared/DOC.md.
 */
public final class ConcertUsher {
    public static final int NONE = -1;

    private static final int ROWS = 8;
    private static final int CONCERTS = 6;
    private static final int PLACES = ROWS * CONCERTS;
    private static final int MOST_LISTENERS = 9;
    private static final int MOST_FADING = 60;
    private static final int MOST_PATIENCE = 10;
    private static final int MOST_ASKING = 30;
    private static final int MOST_MINUTES = 60;
    private static final int MOST_SIGNS = 60;
    private static final int MOST_SAVED = 6;

    private static final int SERVED = 0;
    private static final int DISTURBED = 1;
    private static final int MISSED = 2;
    private static final int GENERAL_QUESTIONS = 3;
    private static final int ROW_QUESTIONS = 4;
    private static final int CALLS = 5;
    private static final int COUNTS = 6;

    private final Hall hall;
    private final History history;
    private final EventText text;

    public ConcertUsher() {
        hall = new Hall();
        history = new History();
        text = new EventText();
    }

    // ---- listeners

    public int come(int row, int concert) throws IndexOutOfBoundsException, IllegalStateException {
        checkRow(row);
        checkConcert(concert);
        int place = placeOf(row, concert);
        if (!hall.hasRoom(place)) {
            throw new IllegalStateException("nine listeners want this concert there already");
        }
        history.keep(hall);
        hall.seat(place);
        return hall.listeners[place];
    }

    public int leave(int row, int concert, boolean isLoud) throws IndexOutOfBoundsException, IllegalStateException {
        checkRow(row);
        checkConcert(concert);
        int place = placeOf(row, concert);
        if (!hall.isWantedAt(place)) {
            throw new IllegalStateException("nobody wants this concert there");
        }
        history.keep(hall);
        hall.unseat(place, isLoud);
        return hall.listeners[place];
    }

    public int listeners(int row, int concert) throws IndexOutOfBoundsException {
        checkRow(row);
        checkConcert(concert);
        return hall.listeners[placeOf(row, concert)];
    }

    // ---- usher

    public boolean setOpen(int row, boolean isOpen) throws IndexOutOfBoundsException {
        checkRow(row);
        history.keep(hall);
        boolean wasOpen = hall.isRowOpen(row);
        if (wasOpen != isOpen) {
            hall.turnRow(row);
        }
        return wasOpen;
    }

    public boolean setQuick(boolean isQuick) {
        history.keep(hall);
        boolean wasQuick = hall.isQuick;
        hall.isQuick = isQuick;
        return wasQuick;
    }

    public int setTimes(int fading, int patience, int asking) throws IllegalArgumentException {
        if (fading < 2 || fading > MOST_FADING) {
            throw new IllegalArgumentException("the fading time is out of range");
        }
        if (patience < 1 || patience > MOST_PATIENCE) {
            throw new IllegalArgumentException("the patience is out of range");
        }
        if (asking < 1 || asking > MOST_ASKING) {
            throw new IllegalArgumentException("the asking time is out of range");
        }
        history.keep(hall);
        int previousFading = hall.fading;
        hall.fading = fading;
        hall.patience = patience;
        hall.asking = asking;
        return previousFading;
    }

    public int setPresent(int usher, boolean isPresent) throws IndexOutOfBoundsException {
        if (usher != 1 && usher != 2) {
            throw new IndexOutOfBoundsException("there is no such other usher");
        }
        history.keep(hall);
        if (usher == 1) {
            hall.isFirstPresent = isPresent;
        } else {
            hall.isSecondPresent = isPresent;
        }
        return hall.chiefAsker();
    }

    public int chief() {
        return hall.chiefAsker();
    }

    public int rest(int row, int concert) throws IndexOutOfBoundsException {
        checkRow(row);
        checkConcert(concert);
        return hall.rests[placeOf(row, concert)];
    }

    public int entries() {
        return hall.entriesInAll();
    }

    public boolean isOpen(int row) throws IndexOutOfBoundsException {
        checkRow(row);
        return hall.isRowOpen(row);
    }

    public int rows(int concert) throws IndexOutOfBoundsException {
        checkConcert(concert);
        return hall.rowsThatGet(concert);
    }

    public int wanted(int concert) throws IndexOutOfBoundsException {
        checkConcert(concert);
        return hall.rowsThatWant(concert);
    }

    // ---- time, playing

    public int pass(int minutes) throws IllegalArgumentException {
        checkMinutes(minutes);
        history.keep(hall);
        return hall.letPass(minutes);
    }

    public int play(int concert) throws IndexOutOfBoundsException {
        checkConcert(concert);
        history.keep(hall);
        return hall.perform(concert);
    }

    public int minutes() {
        return hall.minutes;
    }

    public int sinceQuestion() {
        return hall.sinceQuestion;
    }

    public int count(int what) throws IndexOutOfBoundsException {
        if (what < 0 || what >= COUNTS) {
            throw new IndexOutOfBoundsException("there is no such count");
        }
        return hall.counts[what];
    }

    public double usefulShare() {
        int served = hall.counts[SERVED];
        int reached = served + hall.counts[DISTURBED];
        if (reached == 0) {
            return 1.0;
        }
        return (double) served / (double) reached;
    }

    // ---- forecasts; they change nothing

    public int minutesToFade(int row, int concert) throws IndexOutOfBoundsException {
        checkRow(row);
        checkConcert(concert);
        return hall.fadesIn(placeOf(row, concert));
    }

    public int minutesToQuestion() {
        return hall.asksIn();
    }

    public int disturbedAfter(int concert, int minutes) throws IndexOutOfBoundsException, IllegalArgumentException {
        checkConcert(concert);
        checkMinutes(minutes);
        return hall.disturbedIn(concert, minutes);
    }

    // ---- event text

    public int append(int code) throws IllegalArgumentException, IllegalStateException {
        if (code < 33 || code > 126) {
            throw new IllegalArgumentException("the character code is out of range");
        }
        if (text.length >= MOST_SIGNS) {
            throw new IllegalStateException("the buffer is full");
        }
        text.add((char) code);
        return text.length;
    }

    public int clearText() {
        int length = text.length;
        text.length = 0;
        return length;
    }

    public int firstError() {
        return text.firstWrongSign();
    }

    public int run() throws IllegalArgumentException {
        if (!text.isComplete()) {
            throw new IllegalArgumentException("the buffer is not a complete event text");
        }
        history.keep(hall);
        int done = doEvents();
        text.length = 0;
        return done;
    }

    // ---- undo

    public int undo() throws IllegalStateException {
        if (history.size == 0) {
            throw new IllegalStateException("no state is saved");
        }
        history.takeBack(hall);
        return history.size;
    }

    public int savedStates() {
        return history.size;
    }

    public long digest() {
        long hash = 4701;
        hash = mix(hash, hall.minutes);
        hash = mix(hash, hall.sinceQuestion);
        hash = mix(hash, hall.chiefAsker());
        hash = mix(hash, hall.entriesInAll());
        hash = mix(hash, hall.asksIn());
        for (int what = 0; what < COUNTS; what++) {
            hash = mix(hash, hall.counts[what]);
        }
        for (int concert = 0; concert < CONCERTS; concert++) {
            hash = mix(hash, hall.rowsThatGet(concert));
            hash = mix(hash, hall.rowsThatWant(concert));
        }
        for (int row = 0; row < ROWS; row++) {
            hash = mixRow(hash, row);
        }
        return hash;
    }

    private long mixRow(long before, int row) {
        long hash = mix(before, hall.isRowOpen(row) ? 1 : 0);
        for (int concert = 0; concert < CONCERTS; concert++) {
            int place = placeOf(row, concert);
            hash = mix(hash, hall.listeners[place]);
            hash = mix(hash, hall.rests[place]);
            hash = mix(hash, hall.fadesIn(place));
        }
        return hash;
    }

    private static long mix(long hash, int value) {
        return 31 * hash + value;
    }

    private static void checkRow(int row) {
        if (!isRow(row)) {
            throw new IndexOutOfBoundsException("there is no such row");
        }
    }

    private static void checkConcert(int concert) {
        if (!isConcert(concert)) {
            throw new IndexOutOfBoundsException("there is no such concert");
        }
    }

    private static void checkMinutes(int minutes) {
        if (minutes < 1 || minutes > MOST_MINUTES) {
            throw new IllegalArgumentException("the minutes are out of range");
        }
    }

    private static boolean isRow(int row) {
        return row >= 0 && row < ROWS;
    }

    private static boolean isConcert(int concert) {
        return concert >= 0 && concert < CONCERTS;
    }

    private static int placeOf(int row, int concert) {
        return row * CONCERTS + concert;
    }

    private int doEvents() {
        int done = 0;
        int end = text.length;
        for (int start = 0; start < end; start++) {
            if (text.startsEvent(start)) {
                if (!doEvent(start)) {
                    return done;
                }
                done++;
            }
        }
        return done;
    }

    /**
     * Tells whether the event is done: not if its method would throw. What becomes an index is looked at once more,
     * though the text has been found complete, so that this need not be proved from the grammar.
     */
    private boolean doEvent(int start) {
        int first = text.digitAt(start + 1);
        int second = text.digitAt(start + 2);
        switch (text.signAt(start)) {
            case 'c':
                return seatIfRoom(first, second);
            case 'l':
                return unseatIfWanted(first, second, true);
            case 's':
                return unseatIfWanted(first, second, false);
            case 'p':
                return performIfThere(first);
            case 't':
                hall.letPass(text.numberAt(start + 1));
                return true;
            default:
                hall.turnRow(first);
                return true;
        }
    }

    private boolean seatIfRoom(int row, int concert) {
        if (!isRow(row) || !isConcert(concert) || !hall.hasRoom(placeOf(row, concert))) {
            return false;
        }
        hall.seat(placeOf(row, concert));
        return true;
    }

    private boolean unseatIfWanted(int row, int concert, boolean isLoud) {
        if (!isRow(row) || !isConcert(concert) || !hall.isWantedAt(placeOf(row, concert))) {
            return false;
        }
        hall.unseat(placeOf(row, concert), isLoud);
        return true;
    }

    private boolean performIfThere(int concert) {
        if (!isConcert(concert)) {
            return false;
        }
        hall.perform(concert);
        return true;
    }

    /** All that undo brings back. A place is a row together with a concert; a rest of 0 stands for no entry. */
    private static final class Hall {
        final int[] listeners = new int[PLACES];
        final int[] rests = new int[PLACES];
        final int[] counts = new int[COUNTS];
        int openRows = 0;
        boolean isQuick = false;
        boolean isFirstPresent = false;
        boolean isSecondPresent = false;
        int fading = 20;
        int patience = 3;
        int asking = 10;
        int minutes = 0;
        int sinceQuestion = 0;

        void copyFrom(Hall other) {
            System.arraycopy(other.listeners, 0, listeners, 0, PLACES);
            System.arraycopy(other.rests, 0, rests, 0, PLACES);
            System.arraycopy(other.counts, 0, counts, 0, COUNTS);
            openRows = other.openRows;
            isQuick = other.isQuick;
            isFirstPresent = other.isFirstPresent;
            isSecondPresent = other.isSecondPresent;
            fading = other.fading;
            patience = other.patience;
            asking = other.asking;
            minutes = other.minutes;
            sinceQuestion = other.sinceQuestion;
        }

        boolean hasRoom(int place) {
            return listeners[place] < MOST_LISTENERS;
        }

        boolean isWantedAt(int place) {
            return listeners[place] > 0;
        }

        void seat(int place) {
            listeners[place]++;
            hearCall(place);
        }

        void unseat(int place, boolean isLoud) {
            listeners[place]--;
            if (isLoud) {
                hearFarewell(place);
            }
        }

        /** One of the listeners there calls: who has just come, or who answers a question; nobody if none is there. */
        private void hearCall(int place) {
            if (listeners[place] > 0) {
                rests[place] = fading;
                counts[CALLS]++;
            }
        }

        private void hearFarewell(int place) {
            if (isQuick && !isWantedAt(place)) {
                rests[place] = 0;
            } else if (rests[place] > patience) {
                rests[place] = patience;
                counts[ROW_QUESTIONS]++;
                hearCall(place);
            }
        }

        private void askAllRows() {
            counts[GENERAL_QUESTIONS]++;
            for (int place = 0; place < PLACES; place++) {
                hearCall(place);
            }
        }

        boolean isRowOpen(int row) {
            return (openRows >> row & 1) == 1;
        }

        void turnRow(int row) {
            openRows ^= 1 << row;
        }

        int chiefAsker() {
            if (isSecondPresent) {
                return 2;
            }
            return isFirstPresent ? 1 : 0;
        }

        int entriesInAll() {
            int entries = 0;
            for (int place = 0; place < PLACES; place++) {
                if (rests[place] > 0) {
                    entries++;
                }
            }
            return entries;
        }

        int rowsThatGet(int concert) {
            int mask = openRows;
            for (int row = 0; row < ROWS; row++) {
                if (rests[placeOf(row, concert)] > 0) {
                    mask |= 1 << row;
                }
            }
            return mask;
        }

        int rowsThatWant(int concert) {
            int mask = 0;
            for (int row = 0; row < ROWS; row++) {
                if (isWantedAt(placeOf(row, concert))) {
                    mask |= 1 << row;
                }
            }
            return mask;
        }

        int letPass(int span) {
            int questions = 0;
            for (int minute = 0; minute < span; minute++) {
                minutes++;
                fadeEntries();
                sinceQuestion++;
                if (sinceQuestion >= timeBetweenQuestions()) {
                    sinceQuestion = 0;
                    askAllRows();
                    questions++;
                }
            }
            return questions;
        }

        private void fadeEntries() {
            for (int place = 0; place < PLACES; place++) {
                if (rests[place] > 0) {
                    rests[place]--;
                }
            }
        }

        /** This usher grants another chief asker double the time. */
        private int timeBetweenQuestions() {
            return chiefAsker() == 0 ? asking : 2 * asking;
        }

        int perform(int concert) {
            int getting = rowsThatGet(concert);
            int wanting = rowsThatWant(concert);
            counts[SERVED] += Integer.bitCount(getting & wanting);
            counts[DISTURBED] += Integer.bitCount(getting & ~wanting);
            counts[MISSED] += Integer.bitCount(wanting & ~getting);
            return Integer.bitCount(getting);
        }

        /** A question that has been due for long, as times or ushers have changed, still waits for the next minute. */
        int asksIn() {
            return Math.max(1, timeBetweenQuestions() - sinceQuestion);
        }

        int fadesIn(int place) {
            int question = asksIn();
            if (!isWantedAt(place) || rests[place] < question) {
                return rests[place];
            }
            // An entry that fades in the very minute of a question is there again after that minute,
            // so what lasts from one question to the next lasts for good.
            return fading < timeBetweenQuestions() ? question + fading : NONE;
        }

        /** Questions are left out: they renew entries only in rows with listeners, which a concert never disturbs. */
        int disturbedIn(int concert, int span) {
            int disturbed = 0;
            for (int row = 0; row < ROWS; row++) {
                int place = placeOf(row, concert);
                if (!isWantedAt(place) && (isRowOpen(row) || rests[place] > span)) {
                    disturbed++;
                }
            }
            return disturbed;
        }
    }

    /** A ring of halls that are made once, as a copy into an old one costs no new object. */
    private static final class History {
        private final Hall[] halls = new Hall[MOST_SAVED];
        private int oldest = 0;
        int size = 0;

        History() {
            for (int slot = 0; slot < MOST_SAVED; slot++) {
                halls[slot] = new Hall();
            }
        }

        void keep(Hall hall) {
            if (size == MOST_SAVED) {
                oldest = (oldest + 1) % MOST_SAVED;
                size--;
            }
            halls[(oldest + size) % MOST_SAVED].copyFrom(hall);
            size++;
        }

        void takeBack(Hall hall) {
            if (size > 0) {
                size--;
                hall.copyFrom(halls[(oldest + size) % MOST_SAVED]);
            }
        }
    }

    /**
     * The buffer, read sign by sign. A state names what may come next; as each state but WRONG can be completed,
     * the first sign that leads to WRONG is the first error.
     */
    private static final class EventText {
        private static final int EVENT = 0;
        private static final int ROW_AND_CONCERT = 1;
        private static final int ROW = 2;
        private static final int CONCERT = 3;
        private static final int NUMBER = 4;
        private static final int DIGIT_OR_END = 5;
        private static final int ZERO_OR_END = 6;
        private static final int END = 7;
        private static final int WRONG = 8;

        private final char[] signs = new char[MOST_SIGNS];
        int length = 0;

        void add(char sign) {
            if (length < MOST_SIGNS) {
                signs[length] = sign;
                length++;
            }
        }

        /** Behind the last sign the answer is an end of an event, whatever an older text has left there. */
        char signAt(int index) {
            return index >= 0 && index < length ? signs[index] : ';';
        }

        int digitAt(int index) {
            return signAt(index) - '0';
        }

        int numberAt(int index) {
            int first = digitAt(index);
            return signAt(index + 1) == ';' ? first : 10 * first + digitAt(index + 1);
        }

        boolean startsEvent(int index) {
            return index == 0 || signAt(index - 1) == ';';
        }

        int firstWrongSign() {
            int state = EVENT;
            for (int index = 0; index < length; index++) {
                state = stateAfter(state, signAt(index));
                if (state == WRONG) {
                    return index;
                }
            }
            return length;
        }

        boolean isComplete() {
            int state = EVENT;
            for (int index = 0; index < length; index++) {
                state = stateAfter(state, signAt(index));
            }
            return state == DIGIT_OR_END || state == ZERO_OR_END || state == END;
        }

        private static int stateAfter(int state, char sign) {
            switch (state) {
                case EVENT:
                    return stateAfterLetter(sign);
                case ROW_AND_CONCERT:
                    return isBetween(sign, '0', '7') ? CONCERT : WRONG;
                case ROW:
                    return isBetween(sign, '0', '7') ? END : WRONG;
                case CONCERT:
                    return isBetween(sign, '0', '5') ? END : WRONG;
                case NUMBER:
                    return stateAfterFirstDigit(sign);
                case DIGIT_OR_END:
                    return isBetween(sign, '0', '9') ? END : stateAfterEvent(sign);
                case ZERO_OR_END:
                    return sign == '0' ? END : stateAfterEvent(sign);
                case END:
                    return stateAfterEvent(sign);
                default:
                    return WRONG;
            }
        }

        private static int stateAfterLetter(char sign) {
            switch (sign) {
                case 'c':
                case 'l':
                case 's':
                    return ROW_AND_CONCERT;
                case 'p':
                    return CONCERT;
                case 't':
                    return NUMBER;
                case 'o':
                    return ROW;
                default:
                    return WRONG;
            }
        }

        private static int stateAfterFirstDigit(char sign) {
            if (isBetween(sign, '1', '5')) {
                return DIGIT_OR_END;
            }
            if (sign == '6') {
                return ZERO_OR_END;
            }
            return isBetween(sign, '7', '9') ? END : WRONG;
        }

        private static int stateAfterEvent(char sign) {
            return sign == ';' ? EVENT : WRONG;
        }

        private static boolean isBetween(char sign, char least, char greatest) {
            return sign >= least && sign <= greatest;
        }
    }
}
