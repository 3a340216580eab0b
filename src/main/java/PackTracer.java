import java.util.Arrays;
import java.util.NoSuchElementException;

/** Traces packs by the messages told of them; the promises by number are those of DOC.md. */
public final class PackTracer {
    public static final int NONE = -1;

    // What an answer says instead of a number asked for.
    private static final int MISSING = -2;
    private static final int SOLD = -3;
    private static final int ENDED = -4;
    private static final int NEITHER = -5;
    private static final int NO_TRAIL = -10;
    private static final int NO_CASE = -1000;

    private static final int MOST_BYTES = 900;
    private static final int MOST_PLACES = 8;
    private static final int MOST_ROADS = 12;
    private static final int MOST_MESSAGES = 60;
    private static final int MOST_FIT = 20;
    private static final int USUAL_FIT = 10;
    private static final int LONGEST_ROAD = 99;
    private static final int LAST_HOUR = 999;
    private static final int THINGS = 40;
    // A unit is in a carton, a carton on a pallet: no chain is longer.
    private static final int LEVELS = 2;

    private static final int UNIT = 0;
    private static final int CARTON = 1;

    private static final int MAKE = 0;
    private static final int PACK = 1;
    private static final int OUT = 2;
    private static final int OPEN = 3;
    private static final int SEAL = 4;
    private static final int MOVE = 5;
    private static final int SCAN = 6;
    private static final int SELL = 7;
    private static final int BACK = 8;
    private static final int END = 9;
    private static final int FREE = 10;

    // Why a message is refused, by the document's numbers.
    private static final int TAKEN = 0;
    private static final int WAS_MADE = 1;
    private static final int NOT_MADE = 2;
    private static final int HAS_ENDED = 3;
    private static final int WRONG_KIND = 4;
    private static final int WRONG_IN = 5;
    private static final int WRONG_SOLD = 6;
    private static final int NO_ROOM = 7;
    private static final int WRONG_OPEN = 8;
    private static final int NOT_TOPMOST = 9;
    private static final int TOO_SOON = 10;
    private static final int QUARANTINED = 11;
    private static final int NOT_QUARANTINED = 12;

    private final Tape tape = new Tape();
    private final Book book = new Book();
    // What is read goes here first, so that a fault leaves the book as it is.
    private final Book draft = new Book();
    private final Reader reader = new Reader(tape, draft);
    private final Story story = new Story(book);
    private final Guess guess = new Guess(story);
    private final Blame blame = new Blame(story);

    public PackTracer() {
    }

    // ---- promises 2 to 6: what is told

    public int feed(int a, int b, int c, int d, int e) {
        if (!tape.hasRoomFor(20)) {
            return NONE;
        }
        tape.append(a);
        tape.append(b);
        tape.append(c);
        tape.append(d);
        tape.append(e);
        return tape.size;
    }

    public int text(int n) {
        if (n < 0 || n > tape.size) {
            return MISSING;
        }
        draft.clear();
        boolean sound = reader.read(n, false);
        return close(sound);
    }

    public int tell(int n) {
        if (n < 0 || n > tape.size) {
            return MISSING;
        }
        draft.become(book);
        boolean sound = reader.read(n, true);
        return close(sound);
    }

    private int close(boolean sound) {
        tape.size = 0;
        if (!sound) {
            return NONE;
        }
        draft.joinRoads();
        book.become(draft);
        story.settle();
        blame.forget();
        return reader.lines;
    }

    public int fault(int what) {
        if (what == 0) {
            return reader.fault;
        }
        return what == 1 ? reader.faultAt : NONE;
    }

    public int hours(int a, int b) {
        if (!book.hasPlace(a) || !book.hasPlace(b)) {
            return NONE;
        }
        return book.way(a, b);
    }

    // ---- promises 7 to 12: what is, by hour

    public int message(int k, int what) throws IndexOutOfBoundsException, NoSuchElementException {
        if (!book.hasMessage(k)) {
            throw new IndexOutOfBoundsException("no such message");
        }
        switch (what) {
            case 0:
                return book.hour[k];
            case 1:
                return book.act[k];
            case 2:
                return book.first[k];
            case 3:
                return book.second[k];
            case 4:
                return story.why[k];
            case 5:
                return story.course.spotOf(k);
            case 6:
                return book.isLate(k) ? 1 : 0;
            default:
                throw new NoSuchElementException("no such what");
        }
    }

    public int thing(int n, int h, int what) {
        if (!isThing(n) || !isHour(h) || what < 0 || what > 9) {
            return NONE;
        }
        return story.worldBy(h).tellOf(n, what);
    }

    public int inside(int n, int h, int i) {
        if (!isThing(n) || !isHour(h) || i < 0) {
            return NONE;
        }
        return pick(story.worldBy(h).contents(n), i);
    }

    public int there(int place, int h, int i) {
        if (!isWhereabouts(place) || !isHour(h) || i < 0) {
            return NONE;
        }
        return pick(story.worldBy(h).allAt(place), i);
    }

    public int many(int h, int what) {
        if (!isHour(h) || what < 0 || what > 5) {
            return NONE;
        }
        return story.worldBy(h).tally(what);
    }

    public int trail(int n, int i, int what) {
        if (!isThing(n) || i < 0 || what < 0 || what > 1) {
            return NO_TRAIL;
        }
        return story.trailEntry(n, i, what == 0);
    }

    // ---- promises 13 to 18: as known, without, to blame

    public int known(int k, int n) {
        if (k < 0 || k > book.size || !isThing(n)) {
            return NONE;
        }
        return story.worldOfFirst(k).whereIs(n);
    }

    public int changed(int k) {
        if (!book.hasMessage(k)) {
            return NONE;
        }
        return story.thingsChangedBy(k);
    }

    public int without(int k, int n) {
        if (!book.hasMessage(k) || !isThing(n)) {
            return NONE;
        }
        return guess.placeWithout(k, n);
    }

    public int refused(int why) {
        if (why < -1 || why > NOT_QUARANTINED) {
            return MISSING;
        }
        return story.verdicts(why);
    }

    public int blamed(int what) {
        if (what < 0 || what > 1) {
            return NONE;
        }
        if (book.size == 0) {
            return MISSING;
        }
        blame.findOne();
        return what == 0 ? blame.one : blame.oneLeaves;
    }

    public int twoBlamed(int what) {
        if (what < 0 || what > 2) {
            return NONE;
        }
        if (book.size < 2) {
            return MISSING;
        }
        blame.findTwo();
        if (what == 2) {
            return blame.twoLeave;
        }
        return what == 0 ? blame.lesser : blame.greater;
    }

    // ---- promises 19 to 25: together, and from place to place

    public int met(int n, int h, int i) {
        if (!isThing(n) || !isHour(h) || i < 0) {
            return NONE;
        }
        return pick(story.allMet(n, h), i);
    }

    public int wereIn(int n, int a, int b, int i) {
        if (!isThing(n) || !isHour(a) || !isHour(b) || b < a || i < 0) {
            return NONE;
        }
        return pick(story.allHeld(n, a, b), i);
    }

    public int most(int n) {
        return isThing(n) ? story.mostHeld(n) : NONE;
    }

    public int still(int n, int h) {
        if (!isThing(n) || !isHour(h)) {
            return NONE;
        }
        return story.heldSince(n, h);
    }

    public int components(int place, int h) {
        if (!book.hasPlace(place) || !isHour(h)) {
            return NONE;
        }
        return story.worldBy(h).clumpsAt(place);
    }

    public int dwelt(int n, int place) {
        if (!isThing(n) || !isPlaceOrSold(place)) {
            return NONE;
        }
        return story.hoursAt(n, place);
    }

    public int flow(int a, int b) {
        if (!isPlaceOrSold(a) || !isWhereabouts(b) || a == b) {
            return NONE;
        }
        return story.passages(a, b);
    }

    // ---- promises 26 to 31: what would be

    public int cause(int k) {
        if (!book.hasMessage(k)) {
            return NONE;
        }
        if (story.why[k] == TAKEN) {
            return -3;
        }
        return pick(guess.deciding(k), 0);
    }

    public int needs(int k, int i) {
        if (!book.hasMessage(k) || i < 0) {
            return NONE;
        }
        if (story.why[k] != TAKEN) {
            return -3;
        }
        return pick(guess.deciding(k), i);
    }

    public int ifAt(int k, int hour, int n) {
        if (!book.hasMessage(k) || !isHour(hour) || n < -1 || n >= THINGS) {
            return NO_CASE;
        }
        return guess.outcomeAt(k, hour, n);
    }

    public int window(int k, int what) {
        if (!book.hasMessage(k) || what < 0 || what > 2) {
            return NONE;
        }
        guess.openWindow(k);
        if (what == 2) {
            return guess.windowHours;
        }
        return what == 0 ? guess.windowFirst : guess.windowLast;
    }

    public int lost(int h, int n, int i) {
        if (!isHour(h) || !isHour(n) || i < 0) {
            return NONE;
        }
        return pick(story.worldBy(h).allKnownBy(h - n), i);
    }

    public int ifSwapped(int k, int j, int n) {
        if (!book.hasMessage(k) || !book.hasMessage(j) || k == j || n < -1 || n >= THINGS) {
            return NO_CASE;
        }
        return guess.outcomeSwapped(k, j, n);
    }

    // ---- promises 32 to 36

    public int busy(int place, int what) {
        if (!isWhereabouts(place) || what < 0 || what > 1) {
            return NONE;
        }
        return story.busiest(place, what == 0);
    }

    public int travelled(int n) {
        return isThing(n) ? story.hoursOnWays(n) : NONE;
    }

    public int clash(int n, int i, int what) {
        if (!isThing(n) || i < 0 || what < 0 || what > 2) {
            return NONE;
        }
        int k = story.clashOf(n, i);
        if (k == MISSING || what == 2) {
            return k;
        }
        return what == 0 ? book.second[k] : book.hour[k];
    }

    public int soonest(int n, int h, int place) {
        if (!isThing(n) || !isHour(h) || !book.hasPlace(place)) {
            return NONE;
        }
        World world = story.worldBy(h);
        int from = world.whereIs(n);
        if (from < 0 || from == place) {
            return from < 0 ? from : h;
        }
        int way = book.way(from, place);
        return way == MISSING ? MISSING : Math.max(h, world.knownAt(n) + way);
    }

    public int count(int what) {
        switch (what) {
            case 0:
                return book.places;
            case 1:
                return book.roads;
            case 2:
                return book.size;
            case 3:
                return book.lateOnes();
            case 4:
                return book.unitsFit;
            case 5:
                return book.cartonsFit;
            case 6:
                return tape.size;
            default:
                return NONE;
        }
    }

    private static boolean isThing(int n) {
        return n >= 0 && n < THINGS;
    }

    private static boolean isHour(int h) {
        return h >= 0 && h <= LAST_HOUR;
    }

    private boolean isPlaceOrSold(int place) {
        return place == SOLD || book.hasPlace(place);
    }

    private boolean isWhereabouts(int place) {
        return place == ENDED || isPlaceOrSold(place);
    }

    /** The i-th number of a set of numbers 0 .. 63, held as bits. */
    private static int pick(long set, int i) {
        int ahead = 0;
        for (int n = 0; n < 64; n++) {
            if ((set >>> n & 1L) != 0L) {
                if (ahead == i) {
                    return n;
                }
                ahead++;
            }
        }
        return MISSING;
    }

    /** The bytes that wait to be read. */
    private static final class Tape {
        private final byte[] bytes = new byte[MOST_BYTES];
        private int size;

        private boolean hasRoomFor(int more) {
            return size + more <= MOST_BYTES;
        }

        private void append(int four) {
            for (int shift = 24; shift >= 0 && size < MOST_BYTES; shift -= 8) {
                bytes[size] = (byte) (four >>> shift);
                size++;
            }
        }
    }

    /** What was told: places, roads, what fits, and the messages by their numbers. */
    private static final class Book {
        private final int[] names = new int[MOST_PLACES];
        private final int[] ways = new int[MOST_PLACES * MOST_PLACES];
        private final int[] hour = new int[MOST_MESSAGES];
        private final int[] act = new int[MOST_MESSAGES];
        private final int[] first = new int[MOST_MESSAGES];
        private final int[] second = new int[MOST_MESSAGES];
        private final int[] kind = new int[MOST_MESSAGES];
        private int places;
        private int roads;
        private int size;
        private int unitsFit = USUAL_FIT;
        private int cartonsFit = USUAL_FIT;
        private boolean fitsTold;

        private void clear() {
            places = 0;
            roads = 0;
            size = 0;
            unitsFit = USUAL_FIT;
            cartonsFit = USUAL_FIT;
            fitsTold = false;
            Arrays.fill(ways, MISSING);
        }

        private void become(Book other) {
            System.arraycopy(other.names, 0, names, 0, MOST_PLACES);
            System.arraycopy(other.ways, 0, ways, 0, MOST_PLACES * MOST_PLACES);
            System.arraycopy(other.hour, 0, hour, 0, MOST_MESSAGES);
            System.arraycopy(other.act, 0, act, 0, MOST_MESSAGES);
            System.arraycopy(other.first, 0, first, 0, MOST_MESSAGES);
            System.arraycopy(other.second, 0, second, 0, MOST_MESSAGES);
            System.arraycopy(other.kind, 0, kind, 0, MOST_MESSAGES);
            places = other.places;
            roads = other.roads;
            size = other.size;
            unitsFit = other.unitsFit;
            cartonsFit = other.cartonsFit;
            fitsTold = other.fitsTold;
        }

        private boolean hasPlace(int p) {
            return p >= 0 && p < places;
        }

        private boolean hasMessage(int k) {
            return k >= 0 && k < size;
        }

        private int placeNamed(int name) {
            for (int p = 0; p < places; p++) {
                if (names[p] == name) {
                    return p;
                }
            }
            return MISSING;
        }

        private void addPlace(int name) {
            if (places < MOST_PLACES) {
                names[places] = name;
                ways[places * MOST_PLACES + places] = 0;
                places++;
            }
        }

        private void addRoad(int a, int b, int length) {
            shorten(a, b, length);
            shorten(b, a, length);
            roads++;
        }

        private void addMessage(int at, int which, int one, int other, int what) {
            if (size < MOST_MESSAGES) {
                hour[size] = at;
                act[size] = which;
                first[size] = one;
                second[size] = other;
                kind[size] = what;
                size++;
            }
        }

        private int way(int a, int b) {
            boolean known = a >= 0 && a < places && b >= 0 && b < places;
            return known ? ways[a * MOST_PLACES + b] : MISSING;
        }

        private void shorten(int a, int b, int length) {
            int now = way(a, b);
            if (hasPlace(a) && hasPlace(b) && (now == MISSING || length < now)) {
                ways[a * MOST_PLACES + b] = length;
            }
        }

        /** Makes the shortest ways out of single roads (Floyd and Warshall). */
        private void joinRoads() {
            for (int over = 0; over < places; over++) {
                for (int a = 0; a < places; a++) {
                    for (int b = 0; b < places; b++) {
                        if (way(a, over) != MISSING && way(over, b) != MISSING) {
                            shorten(a, b, way(a, over) + way(over, b));
                        }
                    }
                }
            }
        }

        private boolean isLate(int k) {
            for (int j = 0; j < k && j < size; j++) {
                if (hour[j] > hour[k]) {
                    return true;
                }
            }
            return false;
        }

        private int lateOnes() {
            int late = 0;
            for (int k = 0; k < size; k++) {
                late += isLate(k) ? 1 : 0;
            }
            return late;
        }

        private int latestHour() {
            int latest = 0;
            for (int k = 0; k < size; k++) {
                latest = Math.max(latest, hour[k]);
            }
            return latest;
        }
    }

    /** A text cut into tokens. */
    private static final class Tokens {
        private static final String LANGUAGE =
            "place road fits at make unit carton pallet pack out open seal move scan sell back end free ";
        // Kinds of tokens: a word of LANGUAGE is of the kind of its place there.
        private static final int WORD_PLACE = 0;
        private static final int WORD_ROAD = 1;
        private static final int WORD_FITS = 2;
        private static final int WORD_AT = 3;
        private static final int WORD_MAKE = 4;
        private static final int WORD_UNIT = 5;
        private static final int WORD_PALLET = 7;
        private static final int WORD_PACK = 8;
        private static final int WORD_FREE = 17;
        private static final int NAME = 18;
        private static final int NUMBER = 19;
        private static final int LINE_END = 20;
        private static final int STOP = 21;
        private static final int NO_TOKEN = 22;

        private static final int MOST_LETTERS = 6;
        // Above each number that is said, so that a longer run of digits stays beyond.
        private static final int HUGE = 100000;

        // One more than bytes: the stop stands behind all.
        private final int[] kinds = new int[MOST_BYTES + 1];
        private final int[] starts = new int[MOST_BYTES + 1];
        private final int[] values = new int[MOST_BYTES + 1];
        private final Tape tape;
        private int size;
        private int end;
        private int at;
        private int value;

        private Tokens(Tape tape) {
            this.tape = tape;
        }

        /** Cuts the first n bytes of the tape. */
        private void cut(int n) {
            end = Math.max(0, Math.min(n, tape.size));
            at = 0;
            size = 0;
            skipBlanks();
            for (int cuts = 0; cuts < MOST_BYTES && at < end; cuts++) {
                int start = at;
                value = 0;
                int kind = passToken();
                add(kind, start);
                skipBlanks();
            }
            value = 0;
            add(STOP, end);
        }

        private void add(int kind, int start) {
            if (size < kinds.length) {
                kinds[size] = kind;
                starts[size] = start;
                values[size] = value;
                size++;
            }
        }

        private void skipBlanks() {
            while (at < end && (tape.bytes[at] == 10 || tape.bytes[at] == 32)) {
                at++;
            }
        }

        private int passToken() {
            if (isLetter()) {
                return passWord();
            }
            if (isDigit()) {
                passDigits();
                return NUMBER;
            }
            at++;
            return tape.bytes[at - 1] == ';' ? LINE_END : NO_TOKEN;
        }

        private int passWord() {
            int start = at;
            while (at < end && isLetter()) {
                // Five bits a letter: each word of up to six letters has a value of its own.
                value = (value << 5) + tape.bytes[at] - 'a' + 1;
                at++;
            }
            return at - start > MOST_LETTERS ? NO_TOKEN : kindOfWord();
        }

        private void passDigits() {
            while (at < end && isDigit()) {
                value = Math.min(value * 10 + tape.bytes[at] - '0', HUGE);
                at++;
            }
        }

        private boolean isLetter() {
            return tape.bytes[at] >= 'a' && tape.bytes[at] <= 'z';
        }

        private boolean isDigit() {
            return tape.bytes[at] >= '0' && tape.bytes[at] <= '9';
        }

        private int kindOfWord() {
            int number = 0;
            int word = 0;
            for (int i = 0; i < LANGUAGE.length(); i++) {
                char sign = LANGUAGE.charAt(i);
                if (sign != ' ') {
                    word = (word << 5) + sign - 'a' + 1;
                } else if (word == value) {
                    return number;
                } else {
                    number++;
                    word = 0;
                }
            }
            return NAME;
        }
    }

    /** Reads a text into a book, up to the first fault. */
    private static final class Reader {
        private static final int FAULT_TOKEN = 1;
        private static final int FAULT_TOO_MUCH = 2;
        private static final int FAULT_TOLD = 3;

        private final Tokens tokens;
        private final Book book;
        private int at;
        private int kind;
        private int value;
        private int fault;
        private int faultAt = NONE;
        private int lines;

        private Reader(Tape tape, Book book) {
            tokens = new Tokens(tape);
            this.book = book;
        }

        /** Reads the tape's first n bytes: whether they have no fault. */
        private boolean read(int n, boolean messagesAlone) {
            tokens.cut(n);
            fault = 0;
            faultAt = NONE;
            lines = 0;
            goTo(0);
            while (lines < MOST_BYTES && fault == 0 && kind != Tokens.STOP) {
                if (messagesAlone && kind != Tokens.WORD_AT) {
                    fail(FAULT_TOKEN);
                }
                readLine();
                lines++;
            }
            return fault == 0;
        }

        private void goTo(int token) {
            if (token < tokens.size) {
                at = token;
                kind = tokens.kinds[token];
                value = tokens.values[token];
            }
        }

        /** Only the first fault counts: those behind it follow from it. */
        private void fail(int number) {
            if (fault == 0) {
                fault = number;
                faultAt = tokens.starts[at];
            }
        }

        private void readLine() {
            switch (kind) {
                case Tokens.WORD_PLACE:
                    readPlace();
                    break;
                case Tokens.WORD_ROAD:
                    readRoad();
                    break;
                case Tokens.WORD_FITS:
                    readFits();
                    break;
                case Tokens.WORD_AT:
                    readMessage();
                    break;
                default:
                    fail(FAULT_TOKEN);
                    break;
            }
            take(Tokens.LINE_END, Tokens.LINE_END);
        }

        private void readPlace() {
            if (book.places == MOST_PLACES) {
                fail(FAULT_TOO_MUCH);
            }
            take(Tokens.WORD_PLACE, Tokens.WORD_PLACE);
            int name = value;
            if (kind == Tokens.NAME && book.placeNamed(name) != MISSING) {
                fail(FAULT_TOLD);
            }
            take(Tokens.NAME, Tokens.NAME);
            if (fault == 0) {
                book.addPlace(name);
            }
        }

        private void readRoad() {
            if (book.roads == MOST_ROADS) {
                fail(FAULT_TOO_MUCH);
            }
            take(Tokens.WORD_ROAD, Tokens.WORD_ROAD);
            int a = takePlace(NONE);
            int b = takePlace(a);
            int length = takeNumber(1, LONGEST_ROAD);
            if (fault == 0) {
                book.addRoad(a, b, length);
            }
        }

        private void readFits() {
            if (book.fitsTold) {
                fail(FAULT_TOLD);
            }
            take(Tokens.WORD_FITS, Tokens.WORD_FITS);
            int units = takeNumber(1, MOST_FIT);
            int cartons = takeNumber(1, MOST_FIT);
            if (fault == 0) {
                book.unitsFit = units;
                book.cartonsFit = cartons;
                book.fitsTold = true;
            }
        }

        private void readMessage() {
            if (book.size == MOST_MESSAGES) {
                fail(FAULT_TOO_MUCH);
            }
            take(Tokens.WORD_AT, Tokens.WORD_AT);
            int hour = takeNumber(0, LAST_HOUR);
            int act = takeAct();
            int first = takeNumber(0, THINGS - 1);
            int sort = UNIT;
            if (act == MAKE) {
                sort = UNIT + take(Tokens.WORD_UNIT, Tokens.WORD_PALLET) - Tokens.WORD_UNIT;
            }
            int second = takeSecond(act);
            if (fault == 0) {
                book.addMessage(hour, act, first, second, sort);
            }
        }

        private int takeAct() {
            if (kind == Tokens.WORD_MAKE) {
                take(Tokens.WORD_MAKE, Tokens.WORD_MAKE);
                return MAKE;
            }
            return PACK + take(Tokens.WORD_PACK, Tokens.WORD_FREE) - Tokens.WORD_PACK;
        }

        private int takeSecond(int act) {
            switch (act) {
                case PACK:
                    return takeNumber(0, THINGS - 1);
                case MAKE:
                case MOVE:
                case SCAN:
                case BACK:
                    return takePlace(NONE);
                default:
                    return MISSING;
            }
        }

        private int takeNumber(int least, int greatest) {
            int number = value;
            if (kind == Tokens.NUMBER && (number < least || number > greatest)) {
                fail(FAULT_TOO_MUCH);
            }
            take(Tokens.NUMBER, Tokens.NUMBER);
            return number;
        }

        private int takePlace(int butNot) {
            int place = kind == Tokens.NAME ? book.placeNamed(value) : MISSING;
            if (place == MISSING) {
                fail(FAULT_TOKEN);
            } else if (place == butNot) {
                fail(FAULT_TOLD);
            }
            take(Tokens.NAME, Tokens.NAME);
            return place;
        }

        /** Passes a token of some kinds, if there was no fault as yet: the kind it is of. */
        private int take(int firstKind, int lastKind) {
            int taken = kind;
            if (taken < firstKind || taken > lastKind) {
                fail(FAULT_TOKEN);
            }
            if (fault != 0) {
                return firstKind;
            }
            goTo(at + 1);
            return taken;
        }
    }

    /** The things as they are behind some messages. */
    private static final class World {
        private static final int UNMADE = -1;

        private static final int MARK_OPEN = 1;
        private static final int MARK_SOLD = 2;
        private static final int MARK_ENDED = 4;
        private static final int MARK_QUARANTINED = 8;

        private final int[] kind = new int[THINGS];
        private final int[] in = new int[THINGS];
        // Place, LAST and the sold mark count of what is topmost alone.
        private final int[] place = new int[THINGS];
        private final int[] last = new int[THINGS];
        private final int[] seen = new int[THINGS];
        private final int[] marks = new int[THINGS];

        private void clear() {
            Arrays.fill(kind, UNMADE);
            Arrays.fill(in, NEITHER);
            Arrays.fill(place, NONE);
            Arrays.fill(last, 0);
            Arrays.fill(seen, NEITHER);
            Arrays.fill(marks, 0);
        }

        private void become(World other) {
            System.arraycopy(other.kind, 0, kind, 0, THINGS);
            System.arraycopy(other.in, 0, in, 0, THINGS);
            System.arraycopy(other.place, 0, place, 0, THINGS);
            System.arraycopy(other.last, 0, last, 0, THINGS);
            System.arraycopy(other.seen, 0, seen, 0, THINGS);
            System.arraycopy(other.marks, 0, marks, 0, THINGS);
        }

        private boolean has(int n, int mark) {
            return (marks[n] & mark) != 0;
        }

        private void mark(int n, int mark) {
            marks[n] |= mark;
        }

        private void unmark(int n, int mark) {
            marks[n] &= ~mark;
        }

        private boolean isMade(int n) {
            return kind[n] != UNMADE;
        }

        private int topmost(int n) {
            int top = n;
            for (int up = 0; up < LEVELS && in[top] >= 0; up++) {
                top = in[top];
            }
            return top;
        }

        private boolean isIn(int n, int outer) {
            int t = in[n];
            for (int up = 0; up < LEVELS && t >= 0; up++) {
                if (t == outer) {
                    return true;
                }
                t = in[t];
            }
            return false;
        }

        private int whereIs(int n) {
            if (!isMade(n)) {
                return MISSING;
            }
            if (has(n, MARK_ENDED)) {
                return ENDED;
            }
            int top = topmost(n);
            return has(top, MARK_SOLD) ? SOLD : place[top];
        }

        private int knownAt(int n) {
            return last[topmost(n)];
        }

        /** Looks at message k as told for an hour: why it is refused, or TAKEN. */
        private int look(Book book, int k, int hour) {
            int why = objection(book, k, hour);
            int n = book.first[k];
            int act = book.act[k];
            if (why == TAKEN) {
                carryOut(book, k, hour);
            } else if (act == MAKE && !has(n, MARK_ENDED)) {
                mark(n, MARK_QUARANTINED);
            } else if (act == SCAN && (why == WRONG_SOLD || why == TOO_SOON)) {
                mark(n, MARK_QUARANTINED);
            }
            return why;
        }

        private int objection(Book book, int k, int hour) {
            int act = book.act[k];
            int n = book.first[k];
            if (act == MAKE) {
                return isMade(n) ? WAS_MADE : TAKEN;
            }
            int m = act == PACK ? book.second[k] : n;
            if (!isMade(n) || !isMade(m)) {
                return NOT_MADE;
            }
            if (has(n, MARK_ENDED) || has(m, MARK_ENDED)) {
                return HAS_ENDED;
            }
            int top = topmost(n);
            boolean sold = has(top, MARK_SOLD);
            switch (act) {
                case PACK:
                    int why = objectionToPack(book, n, m);
                    return why == TAKEN && isQuarantinedWithin(n) ? QUARANTINED : why;
                case OUT:
                    return in[n] < 0 ? WRONG_IN : sold ? WRONG_SOLD : TAKEN;
                case OPEN:
                    return sold ? WRONG_SOLD : has(n, MARK_OPEN) || kind[n] == UNIT ? WRONG_OPEN : TAKEN;
                case SEAL:
                    return sold ? WRONG_SOLD : has(n, MARK_OPEN) ? TAKEN : WRONG_OPEN;
                case MOVE:
                    return sold ? WRONG_SOLD : in[n] >= 0 ? NOT_TOPMOST
                        : isTooSoon(book, top, book.second[k], hour) ? TOO_SOON : TAKEN;
                case SCAN:
                    return sold ? WRONG_SOLD : isTooSoon(book, top, book.second[k], hour) ? TOO_SOON : TAKEN;
                case SELL:
                    return sold ? WRONG_SOLD : in[n] >= 0 ? NOT_TOPMOST
                        : isQuarantinedWithin(n) ? QUARANTINED : TAKEN;
                case BACK:
                    return in[n] >= 0 || !sold ? WRONG_SOLD : TAKEN;
                case FREE:
                    return has(n, MARK_QUARANTINED) ? TAKEN : NOT_QUARANTINED;
                default:
                    return TAKEN;
            }
        }

        private int objectionToPack(Book book, int n, int m) {
            int top = topmost(n);
            int otherTop = topmost(m);
            if (kind[m] != kind[n] + 1) {
                return WRONG_KIND;
            }
            if (in[n] >= 0) {
                return WRONG_IN;
            }
            if (has(top, MARK_SOLD) || has(otherTop, MARK_SOLD)) {
                return WRONG_SOLD;
            }
            int room = kind[m] == CARTON ? book.unitsFit : book.cartonsFit;
            return place[top] != place[otherTop] || heldAtOnce(m) >= room ? NO_ROOM : TAKEN;
        }

        private boolean isTooSoon(Book book, int top, int to, int hour) {
            if (place[top] == to) {
                return false;
            }
            int way = book.way(place[top], to);
            return way == MISSING || hour - last[top] < way;
        }

        private boolean isQuarantinedWithin(int n) {
            for (int x = 0; x < THINGS; x++) {
                if (has(x, MARK_QUARANTINED) && (x == n || isIn(x, n))) {
                    return true;
                }
            }
            return false;
        }

        private void carryOut(Book book, int k, int hour) {
            int n = book.first[k];
            int m = book.second[k];
            int top = topmost(n);
            switch (book.act[k]) {
                case MAKE:
                    kind[n] = book.kind[k];
                    stand(n, m, hour);
                    break;
                case PACK:
                    in[n] = m;
                    break;
                case OUT:
                    openAround(n);
                    stand(n, place[top], hour);
                    break;
                case OPEN:
                    mark(n, MARK_OPEN);
                    break;
                case SEAL:
                    unmark(n, MARK_OPEN);
                    break;
                case MOVE:
                    stand(n, m, hour);
                    break;
                case SCAN:
                    seen[n] = hour;
                    stand(place[top] == m ? top : looseWith(n), m, hour);
                    break;
                case SELL:
                    mark(n, MARK_SOLD);
                    break;
                case BACK:
                    unmark(n, MARK_SOLD);
                    stand(n, m, hour);
                    break;
                case END:
                    openAround(n);
                    endWithAllIn(n);
                    break;
                default:
                    unmark(n, MARK_QUARANTINED);
                    break;
            }
        }

        /** Stands a thing at a place, in none, known there from an hour on. */
        private void stand(int n, int where, int hour) {
            in[n] = NEITHER;
            place[n] = where;
            last[n] = hour;
        }

        private void openAround(int n) {
            if (in[n] >= 0) {
                mark(in[n], MARK_OPEN);
            }
        }

        /** What goes along with a thing that is found elsewhere: up to the inmost open one around it. */
        private int looseWith(int n) {
            int loose = n;
            for (int up = 0; up < LEVELS && in[loose] >= 0; up++) {
                if (has(in[loose], MARK_OPEN)) {
                    return loose;
                }
                loose = in[loose];
            }
            return loose;
        }

        private void endWithAllIn(int n) {
            for (int x = 0; x < THINGS; x++) {
                if (x == n || isIn(x, n)) {
                    mark(x, MARK_ENDED);
                }
            }
            // Behind the marks only, since the marks are found by what things are in.
            for (int x = 0; x < THINGS; x++) {
                if (has(x, MARK_ENDED)) {
                    in[x] = NEITHER;
                    unmark(x, MARK_QUARANTINED);
                }
            }
        }

        private int heldAtOnce(int n) {
            int held = 0;
            for (int x = 0; x < THINGS; x++) {
                held += in[x] == n ? 1 : 0;
            }
            return held;
        }

        private long contents(int n) {
            long all = 0L;
            for (int x = 0; x < THINGS; x++) {
                if (isIn(x, n)) {
                    all |= 1L << x;
                }
            }
            return all;
        }

        private long allAt(int where) {
            long all = 0L;
            for (int x = 0; x < THINGS; x++) {
                if (whereIs(x) == where) {
                    all |= 1L << x;
                }
            }
            return all;
        }

        private long allKnownBy(int hour) {
            long all = 0L;
            for (int x = 0; x < THINGS; x++) {
                if (whereIs(x) >= 0 && knownAt(x) <= hour) {
                    all |= 1L << x;
                }
            }
            return all;
        }

        /** A set of things, and all that have a topmost one in common with one of it. */
        private long withCompany(long set) {
            long tops = 0L;
            for (int x = 0; x < THINGS; x++) {
                if ((set >>> x & 1L) != 0L && !has(x, MARK_ENDED)) {
                    tops |= 1L << topmost(x);
                }
            }
            long all = set;
            for (int x = 0; x < THINGS; x++) {
                if ((tops >>> topmost(x) & 1L) != 0L) {
                    all |= 1L << x;
                }
            }
            return all;
        }

        private int clumpsAt(int where) {
            int clumps = 0;
            for (int x = 0; x < THINGS; x++) {
                if (whereIs(x) == where && (in[x] < 0 || has(in[x], MARK_OPEN))) {
                    clumps++;
                }
            }
            return clumps;
        }

        private int tellOf(int n, int what) {
            int where = whereIs(n);
            if (where == MISSING || where == ENDED) {
                return where;
            }
            switch (what) {
                case 0:
                    return kind[n];
                case 1:
                    return in[n];
                case 2:
                    return topmost(n);
                case 3:
                    return where;
                case 4:
                    return has(n, MARK_OPEN) ? 1 : 0;
                case 5:
                    return has(n, MARK_QUARANTINED) ? 1 : 0;
                case 6:
                    return seen[n];
                case 7:
                    return knownAt(n);
                case 8:
                    return heldAtOnce(n);
                default:
                    return Long.bitCount(contents(n));
            }
        }

        private int tally(int what) {
            int all = 0;
            for (int x = 0; x < THINGS; x++) {
                all += isSo(x, what) ? 1 : 0;
            }
            return all;
        }

        private boolean isSo(int n, int what) {
            switch (what) {
                case 0:
                    return isMade(n);
                case 1:
                    return whereIs(n) == SOLD;
                case 2:
                    return has(n, MARK_ENDED);
                case 3:
                    return has(n, MARK_QUARANTINED);
                case 4:
                    return isMade(n) && in[n] < 0 && !has(n, MARK_ENDED);
                default:
                    // The document takes an ended one's quarantine away, not its being open.
                    return has(n, MARK_OPEN);
            }
        }
    }

    /** The order in which messages are looked at, by the hours they are told for. */
    private static final class Course {
        private final int[] hour = new int[MOST_MESSAGES];
        private final int[] turn = new int[MOST_MESSAGES];
        private int size;

        private void takeHours(Book book) {
            size = book.size;
            System.arraycopy(book.hour, 0, hour, 0, MOST_MESSAGES);
        }

        private void arrange() {
            for (int k = 0; k < size; k++) {
                int spot = k;
                while (spot > 0 && hour[turn[spot - 1]] > hour[k]) {
                    turn[spot] = turn[spot - 1];
                    spot--;
                }
                turn[spot] = k;
            }
        }

        private int spotOf(int k) {
            for (int p = 0; p < size; p++) {
                if (turn[p] == k) {
                    return p;
                }
            }
            return NONE;
        }

        private int hourAt(int p) {
            return hour[turn[p]];
        }
    }

    /** What happened by all messages of the book. */
    private static final class Story {
        private final Course course = new Course();
        private final World world = new World();
        private final World before = new World();
        private final int[] why = new int[MOST_MESSAGES];
        private final Book book;

        private Story(Book book) {
            this.book = book;
        }

        /** Looks at all messages anew. */
        private void settle() {
            course.takeHours(book);
            course.arrange();
            world.clear();
            for (int p = 0; p < course.size; p++) {
                why[course.turn[p]] = step(p);
            }
        }

        private int step(int p) {
            return world.look(book, course.turn[p], course.hourAt(p));
        }

        /** Brings the world to an hour: the first spot behind it. */
        private int goTo(int h) {
            world.clear();
            int p = 0;
            while (p < course.size && course.hourAt(p) <= h) {
                world.look(book, course.turn[p], course.hourAt(p));
                p++;
            }
            return p;
        }

        private World worldBy(int h) {
            goTo(h);
            return world;
        }

        private World worldOfFirst(int k) {
            world.clear();
            for (int p = 0; p < course.size; p++) {
                if (course.turn[p] < k) {
                    step(p);
                }
            }
            return world;
        }

        private int thingsChangedBy(int k) {
            before.become(worldOfFirst(k));
            worldOfFirst(k + 1);
            int things = 0;
            for (int n = 0; n < THINGS; n++) {
                things += before.whereIs(n) != world.whereIs(n) ? 1 : 0;
            }
            return things;
        }

        /** How many messages have a verdict, -1: any but TAKEN. */
        private int verdicts(int which) {
            int all = 0;
            for (int k = 0; k < course.size; k++) {
                all += which == why[k] || which == -1 && why[k] != TAKEN ? 1 : 0;
            }
            return all;
        }

        private int trailEntry(int n, int i, boolean wantsPlace) {
            world.clear();
            int where = MISSING;
            int told = 0;
            for (int p = 0; p < course.size; p++) {
                step(p);
                if (world.whereIs(n) != where) {
                    where = world.whereIs(n);
                    if (told == i) {
                        return wantsPlace ? where : course.hourAt(p);
                    }
                    told++;
                }
            }
            return MISSING;
        }

        private int hoursAt(int n, int place) {
            world.clear();
            int where = MISSING;
            int since = 0;
            int all = 0;
            for (int p = 0; p < course.size; p++) {
                step(p);
                if (world.whereIs(n) != where) {
                    all += where == place ? course.hourAt(p) - since : 0;
                    where = world.whereIs(n);
                    since = course.hourAt(p);
                }
            }
            return where == place ? all + book.latestHour() - since : all;
        }

        private int passages(int a, int b) {
            world.clear();
            int all = 0;
            for (int p = 0; p < course.size; p++) {
                long ahead = world.allAt(a);
                step(p);
                all += Long.bitCount(ahead & world.allAt(b));
            }
            return all;
        }

        private int hoursOnWays(int n) {
            world.clear();
            int place = MISSING;
            int all = 0;
            for (int p = 0; p < course.size; p++) {
                step(p);
                int where = world.whereIs(n);
                if (where >= 0) {
                    all += Math.max(0, book.way(place, where));
                    place = where;
                }
            }
            return world.isMade(n) ? all : MISSING;
        }

        private int busiest(int place, boolean wantsMost) {
            world.clear();
            int most = NONE;
            int hour = MISSING;
            for (int p = 0; p < course.size; p++) {
                step(p);
                int there = Long.bitCount(world.allAt(place));
                if (there > most) {
                    most = there;
                    hour = course.hourAt(p);
                }
            }
            return wantsMost ? Math.max(0, most) : hour;
        }

        private long allMet(int n, int h) {
            int p = goTo(h);
            if (!world.isMade(n) || world.has(n, World.MARK_ENDED)) {
                return 0L;
            }
            long met = world.withCompany(1L << n);
            for (int q = p; q < course.size; q++) {
                step(q);
                met = world.withCompany(met);
            }
            return met;
        }

        private long allHeld(int n, int a, int b) {
            int p = goTo(a);
            long held = world.contents(n);
            for (int q = p; q < course.size && course.hourAt(q) <= b; q++) {
                step(q);
                held |= world.contents(n);
            }
            return held;
        }

        private int mostHeld(int n) {
            world.clear();
            int most = 0;
            for (int p = 0; p < course.size; p++) {
                step(p);
                most = Math.max(most, Long.bitCount(world.contents(n)));
            }
            return world.isMade(n) ? most : MISSING;
        }

        private int heldSince(int n, int h) {
            world.clear();
            int since = MISSING;
            for (int p = 0; p < course.size && course.hourAt(p) <= h; p++) {
                long held = world.contents(n);
                boolean made = world.isMade(n);
                step(p);
                if (world.contents(n) != held || world.isMade(n) != made) {
                    since = course.hourAt(p);
                }
            }
            return world.has(n, World.MARK_ENDED) ? ENDED : since;
        }

        private int clashOf(int n, int i) {
            int ahead = 0;
            for (int p = 0; p < course.size; p++) {
                int k = course.turn[p];
                boolean clashes = why[k] == WRONG_SOLD || why[k] == TOO_SOON;
                if (book.act[k] == SCAN && book.first[k] == n && clashes) {
                    if (ahead == i) {
                        return k;
                    }
                    ahead++;
                }
            }
            return MISSING;
        }
    }

    /** What would be, were a message left out or told for another hour. */
    private static final class Guess {
        private final World world = new World();
        private final Course other = new Course();
        private final Story story;
        private final Book book;
        private int windowFirst;
        private int windowLast;
        private int windowHours;

        private Guess(Story story) {
            this.story = story;
            book = story.book;
        }

        private int placeWithout(int k, int n) {
            lastVerdictWithout(k, story.course.size - 1);
            return world.whereIs(n);
        }

        /** The verdict on the message at a spot, were message k not told. */
        private int lastVerdictWithout(int k, int spot) {
            world.clear();
            int verdict = TAKEN;
            for (int p = 0; p <= spot && p < story.course.size; p++) {
                int j = story.course.turn[p];
                if (j != k) {
                    verdict = world.look(book, j, book.hour[j]);
                }
            }
            return verdict;
        }

        /** Those without which, each by itself, message k turns from refused to taken or back. */
        private long deciding(int k) {
            long all = 0L;
            int spot = story.course.spotOf(k);
            // Messages looked at behind message k change nothing of it.
            for (int p = 0; p < spot; p++) {
                int j = story.course.turn[p];
                boolean taken = lastVerdictWithout(j, spot) == TAKEN;
                if (taken != (story.why[k] == TAKEN)) {
                    all |= 1L << j;
                }
            }
            return all;
        }

        private int outcomeAt(int k, int hour, int n) {
            other.takeHours(book);
            other.hour[k] = hour;
            return outcome(n);
        }

        private int outcomeSwapped(int k, int j, int n) {
            other.takeHours(book);
            other.hour[k] = book.hour[j];
            other.hour[j] = book.hour[k];
            return outcome(n);
        }

        /** Of the other course where thing n is at the end, -1: how many are refused. */
        private int outcome(int n) {
            other.arrange();
            world.clear();
            int refusals = 0;
            for (int p = 0; p < other.size; p++) {
                refusals += world.look(book, other.turn[p], other.hourAt(p)) != TAKEN ? 1 : 0;
            }
            return n < 0 ? refusals : world.whereIs(n);
        }

        private void openWindow(int k) {
            windowFirst = MISSING;
            windowLast = MISSING;
            windowHours = 0;
            world.clear();
            int p = 0;
            boolean taken = world.objection(book, k, 0) == TAKEN;
            boolean hourCounts = book.act[k] == MOVE || book.act[k] == SCAN;
            for (int hour = 0; hour <= LAST_HOUR; hour++) {
                int before = p;
                while (p < story.course.size && isAheadOf(p, k, hour)) {
                    int j = story.course.turn[p];
                    if (j != k) {
                        world.look(book, j, book.hour[j]);
                    }
                    p++;
                }
                // In one and the same world only what can be too soon has another verdict by another hour.
                if (p != before || hourCounts) {
                    taken = world.objection(book, k, hour) == TAKEN;
                }
                if (taken) {
                    windowFirst = windowHours == 0 ? hour : windowFirst;
                    windowLast = hour;
                    windowHours++;
                }
            }
        }

        /** Whether what is at a spot goes ahead of message k told for an hour; message k itself is passed by. */
        private boolean isAheadOf(int p, int k, int hour) {
            int j = story.course.turn[p];
            int told = book.hour[j];
            return j == k || told < hour || told == hour && j < k;
        }
    }

    /** Which one message, which two are to blame; found once and kept until more is told. */
    private static final class Blame {
        private final World ahead = new World();
        private final World less = new World();
        private final World rest = new World();
        private final Book book;
        private final Course course;
        private boolean foundOne;
        private boolean foundTwo;
        private int one;
        private int oneLeaves;
        private int lesser;
        private int greater;
        private int twoLeave;

        private Blame(Story story) {
            book = story.book;
            course = story.course;
        }

        private void forget() {
            foundOne = false;
            foundTwo = false;
        }

        private void findOne() {
            if (foundOne) {
                return;
            }
            foundOne = true;
            oneLeaves = MOST_MESSAGES;
            ahead.clear();
            int refusals = 0;
            for (int p = 0; p < course.size; p++) {
                rest.become(ahead);
                int k = course.turn[p];
                int leaves = refusedBehind(p, refusals, oneLeaves);
                if (leaves < oneLeaves || leaves == oneLeaves && k < one) {
                    one = k;
                    oneLeaves = leaves;
                }
                refusals += refusalAt(p, ahead);
            }
        }

        private void findTwo() {
            if (foundTwo) {
                return;
            }
            foundTwo = true;
            twoLeave = MOST_MESSAGES;
            ahead.clear();
            int refusals = 0;
            for (int p = 0; p < course.size; p++) {
                tryPairsWith(p, refusals);
                refusals += refusalAt(p, ahead);
            }
        }

        private void tryPairsWith(int p, int refusalsAhead) {
            less.become(ahead);
            int refusals = refusalsAhead;
            for (int q = p + 1; q < course.size; q++) {
                rest.become(less);
                int leave = refusedBehind(q, refusals, twoLeave);
                propose(Math.min(course.turn[p], course.turn[q]), Math.max(course.turn[p], course.turn[q]), leave);
                refusals += refusalAt(q, less);
            }
        }

        private void propose(int k, int j, int leave) {
            boolean isFirst = k < lesser || k == lesser && j < greater;
            if (leave < twoLeave || leave == twoLeave && isFirst) {
                lesser = k;
                greater = j;
                twoLeave = leave;
            }
        }

        /** Refusals together with those behind a spot; more than enough ends the search early. */
        private int refusedBehind(int p, int already, int enough) {
            int refusals = already;
            for (int q = p + 1; q < course.size && refusals <= enough; q++) {
                refusals += rest.look(book, course.turn[q], course.hourAt(q)) != TAKEN ? 1 : 0;
            }
            return refusals;
        }

        private int refusalAt(int p, World world) {
            return world.look(book, course.turn[p], course.hourAt(p)) != TAKEN ? 1 : 0;
        }
    }
}
