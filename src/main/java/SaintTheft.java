/**
 * Relics that may not be sold but let themselves be carried off.
 *
 * <p>A text is fed as bytes and read; years go by and relics move by its laws; questions are answered on a
 * copy of what goes on, so that asking changes nothing. Every row is made once, in a constructor, and used
 * again: no call makes an object.
 */
public final class SaintTheft {
    public static final int NONE = -1;

    /** There are such ones, but the answer is that there is nothing: he stays, it is there, not by nine. */
    private static final int NOTHING = -2;
    /** Stands for NONE where the answer itself may be below 0. */
    private static final int NO_SUCH = -100000;

    private static final int MOST_BYTES = 2000;
    private static final int BYTES_FED = 20;
    private static final int MOST_TOKENS = 400;
    private static final int MOST_LETTERS = 8;
    private static final int MOST_DIGITS = 4;
    private static final int MOST_IFS = 4;
    private static final int MOST_DEEP = 6;

    private static final int MOST_CHURCHES = 6;
    private static final int MOST_ROADS = 9;
    private static final int MOST_RELICS = 6;
    private static final int MOST_PILGRIMS = 5;
    private static final int MOST_NAMES = MOST_CHURCHES + MOST_RELICS + MOST_PILGRIMS;
    private static final int MOST_WATCHERS = 9;
    private static final int MOST_LENGTH = 99;
    private static final int MOST_NEED = 9;
    private static final int UNREACHED = 999;

    private static final int MOST_NIGHTS = 9;
    private static final int MOST_YEARS = 60;
    private static final int MOST_YEARS_WEIGHED = 24;
    private static final int MOST_SEEDS = 20;
    private static final int MOST_ROW = 4;
    private static final int MOST_TOLD = 20;
    private static final int MOST_UNDONE = 40;
    private static final int SLOTS = 3;
    private static final int HUNDRED = 100;
    private static final int MOST_GIVEN = 99;
    private static final int CAUGHT_LOT = 1000000;
    private static final int LEAVE_LOT = 2000000;

    private static final int NO_FAULT = 0;
    private static final int SYNTAX = 1;
    private static final int ROOM = 2;
    private static final int TWICE = 3;
    private static final int NO_CHURCH = 4;
    private static final int WRONG = 5;

    /** The words in quotes, each with a blank behind it; a word's number here is its TOKEN's kind. */
    private static final String WORDS = "church road relic pilgrim draws heals gives leave caught seed true copy if then else relics wonders far need gift nights watch years truth ";
    private static final int WORD_CHURCH = 0;
    private static final int WORD_ROAD = 1;
    private static final int WORD_RELIC = 2;
    private static final int WORD_PILGRIM = 3;
    private static final int WORD_DRAWS = 4;
    private static final int WORD_CAUGHT = 8;
    private static final int WORD_SEED = 9;
    private static final int WORD_TRUE = 10;
    private static final int WORD_COPY = 11;
    private static final int WORD_IF = 12;
    private static final int WORD_THEN = 13;
    private static final int WORD_ELSE = 14;
    private static final int WORD_RELICS = 15;
    private static final int MANY_WORDS = 24;

    /** Kinds of the other TOKENS; a sign's kind is its own byte, and all of those are above these. */
    private static final int NAME = 24;
    private static final int INT = 25;
    private static final int END = 26;
    private static final int NO_TOKEN = 27;
    private static final String SIGNS = ";=+-*/<()";

    /** Laws and what they look at are numbered as their words stand in WORDS. */
    private static final int DRAWS = 0;
    private static final int HEALS = 1;
    private static final int GIVES = 2;
    private static final int LEAVE = 3;
    private static final int CAUGHT = 4;
    private static final int MANY_LAWS = 5;
    private static final int RELICS = 0;
    private static final int WONDERS = 1;
    private static final int FAR = 2;
    private static final int NEED = 3;
    private static final int GIFT = 4;
    private static final int NIGHTS = 5;
    private static final int WATCH = 6;
    private static final int YEARS = 7;
    private static final int TRUTH = 8;
    private static final int MANY_VARS = 9;

    private Text text = new Text();
    private Text spare = new Text();
    private final Tape tape = new Tape();
    private final Reader reader = new Reader(spare);
    private final State live = new State();
    private final Course course = new Course(text);
    private final Forecast forecast = new Forecast(course, live);
    private final Past past = new Past();
    private final Told told = new Told();

    public SaintTheft() {
        startText();
    }

    public int feed(int a, int b, int c, int d, int e) {
        if (tape.length() > MOST_BYTES - BYTES_FED) {
            return NONE;
        }
        tape.append(a);
        tape.append(b);
        tape.append(c);
        tape.append(d);
        tape.append(e);
        return tape.length();
    }

    public int back(int n) {
        if (n < 0 || n > tape.length()) {
            return NONE;
        }
        tape.cutTo(tape.length() - n);
        return tape.length();
    }

    public int read() {
        int fault = reader.readInto(spare, tape);
        tape.cutTo(0);
        if (fault == NO_FAULT) {
            Text old = text;
            text = spare;
            spare = old;
            startText();
        }
        return fault;
    }

    private void startText() {
        live.begin(text);
        course.turnTo(text);
        past.clear();
        told.clear();
    }

    public int place() {
        return reader.faultPlace();
    }

    public int church(int church, int what) {
        if (!text.hasChurch(church)) {
            return NONE;
        }
        switch (what) {
            case 0:
                return live.get(State.WATCHERS + church);
            case 1:
                return live.get(State.RELICS_AT + church);
            case 2:
                return live.get(State.CHURCH_WONDERS + church);
            case 3:
                return live.get(State.TOOK + church);
            case 4:
                return Integer.bitCount(live.get(State.RELICS_AT + church) & text.trueRelics());
            default:
                return NONE;
        }
    }

    public int relic(int relic, int what) {
        if (!text.hasRelic(relic)) {
            return NONE;
        }
        switch (what) {
            case 0:
                return live.get(State.RELIC_CHURCH + relic);
            case 1:
                return text.truth(relic);
            case 2:
                return live.get(State.RELIC_WONDERS + relic);
            case 3:
                return live.get(State.CARRIED + relic);
            default:
                return NONE;
        }
    }

    public int pilgrim(int pilgrim, int what) {
        if (!text.hasPilgrim(pilgrim)) {
            return NONE;
        }
        switch (what) {
            case 0:
                return text.home(pilgrim);
            case 1:
                return text.needOf(pilgrim);
            case 2:
                return text.giftOf(pilgrim);
            case 3:
                return live.get(State.GIVEN + pilgrim);
            case 4:
                return live.get(State.PILGRIM_WONDERS + pilgrim);
            default:
                return NONE;
        }
    }

    public int tells(int pilgrim, int church, int what) {
        if (!text.hasPilgrim(pilgrim) || !text.hasChurch(church)) {
            return NO_SUCH;
        }
        switch (what) {
            case 0:
                return course.visitValue(DRAWS, live, pilgrim, church);
            case 1:
                return course.visitValue(GIVES, live, pilgrim, church);
            case 2:
                return text.far(text.home(pilgrim), church);
            default:
                return NO_SUCH;
        }
    }

    public int heals(int relic, int pilgrim) {
        if (!text.hasRelic(relic) || !text.hasPilgrim(pilgrim)) {
            return NONE;
        }
        return course.healing(live, relic, pilgrim, text.truth(relic));
    }

    public int steal(int relic, int church, int n) {
        if (!text.hasRelic(relic) || !text.hasChurch(church) || !isWithin(n, 1, MOST_NIGHTS)) {
            return NONE;
        }
        if (live.get(State.RELIC_CHURCH + relic) == church) {
            return NOTHING;
        }
        past.keep(live);
        return course.tryTheft(live, relic, church, n);
    }

    public boolean swap(int relic, int other) {
        if (!text.hasRelic(relic) || !text.hasRelic(other)) {
            return false;
        }
        // One and the same relic is always at one church with itself.
        if (live.get(State.RELIC_CHURCH + relic) == live.get(State.RELIC_CHURCH + other)) {
            return false;
        }
        past.keep(live);
        live.exchange(relic, other);
        return true;
    }

    public boolean watch(int church, int many) {
        if (!text.hasChurch(church) || !isWithin(many, 0, MOST_WATCHERS)) {
            return false;
        }
        if (live.get(State.WATCHERS + church) == many) {
            return false;
        }
        past.keep(live);
        live.set(State.WATCHERS + church, many);
        return true;
    }

    public int years(int n) {
        if (!isWithin(n, 0, MOST_YEARS)) {
            return NONE;
        }
        if (n > 0) {
            past.keep(live);
            course.pass(live, text.seed(), n);
        }
        return live.get(State.YEAR);
    }

    public boolean undo() {
        return past.takeBack(live);
    }

    public int goes(int pilgrim) {
        return text.hasPilgrim(pilgrim) ? course.goal(live, pilgrim) : NONE;
    }

    public int theft(int relic, int n) {
        if (!text.hasRelic(relic) || !isWithin(n, 1, MOST_NIGHTS)) {
            return NONE;
        }
        return course.likely(live, relic, n);
    }

    public int nights(int relic) {
        return text.hasRelic(relic) ? course.bestNights(live, relic) : NONE;
    }

    public int worth(int relic, int n, int what) {
        if (!text.hasRelic(relic) || !isWithin(n, 1, MOST_YEARS_WEIGHED) || !isWithin(what, 0, 1)) {
            return NO_SUCH;
        }
        return forecast.bestHome(relic, n, what == 1);
    }

    public int guard(int church, int p, int n) {
        if (!text.hasChurch(church) || !isWithin(p, 1, HUNDRED) || !isWithin(n, 1, MOST_NIGHTS)) {
            return NONE;
        }
        return course.watchersFor(live, church, p, n);
    }

    public int guards(int p, int n) {
        if (!isWithin(p, 1, HUNDRED) || !isWithin(n, 1, MOST_NIGHTS)) {
            return NONE;
        }
        int all = 0;
        for (int church = 0; church < text.churches(); church++) {
            if (live.get(State.RELICS_AT + church) != 0) {
                int many = course.watchersFor(live, church, p, n);
                if (many < 0) {
                    return NOTHING;
                }
                all += many;
            }
        }
        return all;
    }

    public int weak(int what) {
        if (!isWithin(what, 0, 2)) {
            return NONE;
        }
        int relic = course.weakest(live);
        if (relic < 0 || what == 0) {
            return relic;
        }
        int n = course.bestNights(live, relic);
        return what == 1 ? n : course.likely(live, relic, n);
    }

    public int barter(int n, int what) {
        if (!isWithin(n, 1, MOST_YEARS_WEIGHED) || !isWithin(what, 0, 1)) {
            return NONE;
        }
        return forecast.barters(n, what == 1);
    }

    public int took(int church, int n) {
        if (!text.hasChurch(church) || !isWithin(n, 0, MOST_YEARS)) {
            return NONE;
        }
        return forecast.more(State.TOOK + church, n);
    }

    public int wonders(int relic, int n) {
        if (!text.hasRelic(relic) || !isWithin(n, 0, MOST_YEARS)) {
            return NONE;
        }
        return forecast.more(State.RELIC_WONDERS + relic, n);
    }

    public int goesIn(int pilgrim, int n) {
        if (!text.hasPilgrim(pilgrim) || !isWithin(n, 0, MOST_YEARS)) {
            return NONE;
        }
        return course.goal(forecast.after(n), pilgrim);
    }

    public int rich(int n, int what) {
        if (!isWithin(n, 0, MOST_YEARS) || !isWithin(what, 0, 1)) {
            return NONE;
        }
        return forecast.richest(n, what == 1);
    }

    public int hub() {
        int best = NOTHING;
        int least = 0;
        for (int church = 0; church < text.churches(); church++) {
            int all = 0;
            for (int other = 0; other < text.churches(); other++) {
                all += text.far(church, other);
            }
            if (best < 0 || all < least) {
                best = church;
                least = all;
            }
        }
        return best;
    }

    public int crowd(int church) {
        if (!text.hasChurch(church)) {
            return NONE;
        }
        int bits = 0;
        for (int pilgrim = 0; pilgrim < text.pilgrims(); pilgrim++) {
            if (course.goal(live, pilgrim) == church) {
                bits |= 1 << pilgrim;
            }
        }
        return bits;
    }

    public int healed(int pilgrim, int n) {
        if (!text.hasPilgrim(pilgrim) || !isWithin(n, 0, MOST_YEARS)) {
            return NONE;
        }
        return forecast.more(State.PILGRIM_WONDERS + pilgrim, n);
    }

    public int famed(int n) {
        return isWithin(n, 0, MOST_YEARS) ? forecast.mostFamed(n) : NONE;
    }

    public int year(int relic, int n, int s) {
        if (!text.hasRelic(relic) || !isWithin(n, 0, MOST_YEARS) || !isWithin(s, 1, MOST_SEEDS)) {
            return NONE;
        }
        return forecast.seedsWithWonder(relic, n, s);
    }

    public int belief(int relic, int pilgrim, int n, int k, boolean below) {
        if (!text.hasRelic(relic) || !text.hasPilgrim(pilgrim)) {
            return NONE;
        }
        if (!isWithin(n, 0, MOST_ROW) || !isWithin(k, 0, n)) {
            return NONE;
        }
        long ifTrue = likelyRow(course.healing(live, relic, pilgrim, 1), n, k);
        long ifCopy = likelyRow(course.healing(live, relic, pilgrim, 0), n, k);
        long all = ifTrue + ifCopy;
        if (all == 0) {
            return below ? 2 : 1;
        }
        long common = commonDivisor(all, ifTrue);
        return (int) ((below ? all : ifTrue) / common);
    }

    public int certain(int relic, int pilgrim, int p) {
        if (!text.hasRelic(relic) || !text.hasPilgrim(pilgrim) || !isWithin(p, 0, HUNDRED)) {
            return NONE;
        }
        int healsTrue = course.healing(live, relic, pilgrim, 1);
        int healsCopy = course.healing(live, relic, pilgrim, 0);
        for (int n = 0; n <= MOST_ROW; n++) {
            long ifTrue = likelyRow(healsTrue, n, n);
            long ifCopy = likelyRow(healsCopy, n, n);
            // A row that can't be either way leaves it as likely as not.
            boolean can = ifTrue + ifCopy > 0;
            if (can ? ifTrue * HUNDRED >= p * (ifTrue + ifCopy) : HUNDRED >= p * 2) {
                return n;
            }
        }
        return NOTHING;
    }

    public int tell(int pilgrim, boolean wonder) {
        return text.hasPilgrim(pilgrim) ? told.add(pilgrim, wonder) : NONE;
    }

    public int forget() {
        int many = told.size();
        told.clear();
        return many;
    }

    public int whose(int k, int what) {
        if (!isWithin(k, 0, told.size()) || !isWithin(what, 0, 1)) {
            return NONE;
        }
        forecast.after(1);
        int left = told.relicsLeft(k, text.relics(), course);
        return what == 0 ? Integer.bitCount(left) : left;
    }

    public int ask(int k) {
        if (!isWithin(k, 0, told.size())) {
            return NONE;
        }
        forecast.after(1);
        int left = told.relicsLeft(k, text.relics(), course);
        return left == 0 ? NOTHING : told.bestToAsk(left, text.pilgrims(), course);
    }

    public boolean hold(int slot) {
        return past.putInSlot(live, slot);
    }

    public boolean restore(int slot) {
        return past.takeFromSlot(live, slot);
    }

    public int count(int what) {
        switch (what) {
            case 0:
                return text.churches();
            case 1:
                return text.roads();
            case 2:
                return text.relics();
            case 3:
                return text.pilgrims();
            case 4:
                return live.get(State.YEAR);
            case 5:
                return live.total(State.TOOK, MOST_CHURCHES);
            case 6:
                return live.total(State.CHURCH_WONDERS, MOST_CHURCHES);
            case 7:
                return live.get(State.TRIED);
            case 8:
                return live.get(State.THIEVES_CAUGHT);
            case 9:
                return live.total(State.CARRIED, MOST_RELICS);
            case 10:
                return tape.length();
            case 11:
                return past.size();
            case 12:
                return told.size();
            case 13:
                return past.slotsHeld();
            case 14:
                return live.total(State.WATCHERS, MOST_CHURCHES);
            case 15:
                return text.trueRelics();
            default:
                return NONE;
        }
    }

    /** How likely, of 100 to the power n, a row of n is of which just the first k had a wonder. */
    private static long likelyRow(int healing, int n, int k) {
        long likely = 1;
        for (int i = 0; i < n; i++) {
            likely *= i < k ? healing : HUNDRED - healing;
        }
        return likely;
    }

    /** Of two numbers, the first above 0 and the other not below it: never 0, so that it may divide. */
    private static long commonDivisor(long first, long second) {
        long one = first;
        long other = second;
        for (int step = 0; step < 200 && other > 0; step++) {
            long rest = one % other;
            one = other;
            other = rest;
        }
        return Math.max(1, one);
    }

    private static boolean isWithin(int value, int least, int most) {
        return value >= least && value <= most;
    }

    private static int heldTo(int value, int most) {
        return Math.max(0, Math.min(most, value));
    }

    /** The bytes that were fed and not yet read. */
    private static final class Tape {
        private final byte[] bytes = new byte[MOST_BYTES];
        private int length;

        int length() {
            return length;
        }

        void append(int four) {
            for (int shift = 24; shift >= 0 && length < MOST_BYTES; shift -= 8) {
                bytes[length] = (byte) (four >>> shift);
                length++;
            }
        }

        void cutTo(int shorter) {
            if (isWithin(shorter, 0, length)) {
                length = shorter;
            }
        }

        /** NONE, which is no byte, behind the end. */
        int at(int index) {
            return index >= 0 && index < length ? bytes[index] & 255 : NONE;
        }
    }

    /**
     * A tape's TOKENS, cut off behind the first one too many or at what is no TOKEN: nothing behind either can
     * be the first fault.
     */
    private static final class Tokens {
        private final long[] words = new long[MANY_WORDS];
        private final int[] kinds = new int[MOST_TOKENS + 2];
        private final int[] places = new int[MOST_TOKENS + 2];
        private final long[] values = new long[MOST_TOKENS + 2];
        private int many;

        Tokens() {
            long word = 0;
            int number = 0;
            for (int i = 0; i < WORDS.length() && number < MANY_WORDS; i++) {
                if (WORDS.charAt(i) == ' ') {
                    words[number] = word;
                    number++;
                    word = 0;
                } else {
                    word = withLetter(word, WORDS.charAt(i));
                }
            }
        }

        /** Eight letters of five bits fit into a long, so that names are alike just if these are. */
        private static long withLetter(long word, int letter) {
            return word * 32 + (letter - 'a' + 1);
        }

        private static boolean isLetter(int sign) {
            return sign >= 'a' && sign <= 'z';
        }

        private static boolean isDigit(int sign) {
            return sign >= '0' && sign <= '9';
        }

        private static boolean isBlank(int sign) {
            return sign == ' ' || sign == 9 || sign == 10 || sign == 13;
        }

        int kindAt(int index) {
            return index >= 0 && index < many ? kinds[index] : END;
        }

        int placeAt(int index) {
            return index >= 0 && index < many ? places[index] : NONE;
        }

        /** An INT's number; a NAME's letters as one number. */
        long valueAt(int index) {
            return index >= 0 && index < many ? values[index] : 0;
        }

        void scan(Tape tape) {
            many = 0;
            boolean goesOn = true;
            for (int at = 0; at < tape.length() && goesOn; at++) {
                int sign = tape.at(at);
                if (!isBlank(sign)) {
                    at = Math.max(at, addToken(tape, at, sign));
                    goesOn = many <= MOST_TOKENS && kindAt(many - 1) != NO_TOKEN;
                }
            }
            if (goesOn) {
                put(END, tape.length(), 0);
            }
        }

        /** Adds the TOKEN that begins at a byte: its last byte. */
        private int addToken(Tape tape, int at, int sign) {
            if (isLetter(sign)) {
                return addLetters(tape, at);
            }
            if (isDigit(sign)) {
                return addDigits(tape, at);
            }
            put(SIGNS.indexOf((char) sign) >= 0 ? sign : NO_TOKEN, at, 0);
            return at;
        }

        private int addLetters(Tape tape, int from) {
            long word = 0;
            int end = from;
            for (; end < tape.length() && isLetter(tape.at(end)); end++) {
                word = withLetter(word, tape.at(end));
            }
            put(end - from > MOST_LETTERS ? NO_TOKEN : wordKind(word), from, word);
            return end - 1;
        }

        private int addDigits(Tape tape, int from) {
            int value = 0;
            int end = from;
            for (; end < tape.length() && isDigit(tape.at(end)); end++) {
                value = value * 10 + (tape.at(end) - '0');
            }
            put(end - from > MOST_DIGITS ? NO_TOKEN : INT, from, value);
            return end - 1;
        }

        private int wordKind(long word) {
            for (int i = 0; i < MANY_WORDS; i++) {
                if (words[i] == word) {
                    return i;
                }
            }
            return NAME;
        }

        private void put(int kind, int place, long value) {
            if (many >= 0 && many < kinds.length) {
                kinds[many] = kind;
                places[many] = place;
                values[many] = value;
                many++;
            }
        }
    }

    /**
     * Reads TOKENS into a Text in one pass. SYNTAX and ROOM end the pass, as it goes by place; the other faults
     * count only where those two are not, so the first of them is kept aside and the pass goes on.
     */
    private static final class Reader {
        private final Tokens tokens = new Tokens();
        private Text text;
        private Laws laws;
        private int at;
        private int kind;
        private int fault;
        private int place = NONE;
        private int lateFault;
        private int lateToken;

        Reader(Text first) {
            text = first;
            laws = first.laws();
        }

        int faultPlace() {
            return place;
        }

        /** The number of the fault; with one, the Text is of no use. */
        int readInto(Text into, Tape tape) {
            begin(into, tape);
            boolean goesOn = true;
            for (int tells = 0; goesOn && kind != END && tells <= MOST_TOKENS; tells++) {
                switch (kind) {
                    case WORD_CHURCH:
                        goesOn = readChurch();
                        break;
                    case WORD_ROAD:
                        goesOn = readRoad();
                        break;
                    case WORD_RELIC:
                        goesOn = readRelic();
                        break;
                    case WORD_PILGRIM:
                        goesOn = readPilgrim();
                        break;
                    case WORD_SEED:
                        goesOn = readSeed();
                        break;
                    default:
                        goesOn = readLaw();
                        break;
                }
            }
            settle();
            return fault;
        }

        private void begin(Text into, Tape tape) {
            tokens.scan(tape);
            into.clear();
            text = into;
            laws = into.laws();
            at = 0;
            kind = tokens.kindAt(0);
            fault = NO_FAULT;
            lateFault = NO_FAULT;
            lateToken = 0;
        }

        /** The pass has stopped at the TOKEN of its fault, or else a later one may have been kept aside. */
        private void settle() {
            int token = at;
            if (fault == NO_FAULT) {
                fault = lateFault;
                token = lateToken;
            }
            if (fault == NO_FAULT) {
                place = NONE;
                text.joinRoads();
            } else {
                place = tokens.placeAt(token);
            }
        }

        /** Goes past a TOKEN of a kind; the 401st is too many only where it could stand at all. */
        private boolean take(int wanted) {
            if (kind != wanted) {
                return refuse(SYNTAX);
            }
            if (at >= MOST_TOKENS) {
                return refuse(ROOM);
            }
            at++;
            kind = tokens.kindAt(at);
            return true;
        }

        private boolean refuse(int number) {
            fault = number;
            return false;
        }

        private void refuseLate(int number, int token) {
            if (lateFault == NO_FAULT) {
                lateFault = number;
                lateToken = token;
            }
        }

        private boolean readChurch() {
            int first = at;
            if (text.churches() >= MOST_CHURCHES) {
                return refuse(ROOM);
            }
            if (!take(WORD_CHURCH) || !take(NAME) || !take(INT) || !take(';')) {
                return false;
            }
            addName(first + 1);
            text.addChurch(tokens.valueAt(first + 1), numberAt(first + 2, 0, MOST_WATCHERS));
            return true;
        }

        private boolean readRoad() {
            int first = at;
            if (text.roads() >= MOST_ROADS) {
                return refuse(ROOM);
            }
            if (!take(WORD_ROAD) || !take(NAME) || !take(NAME) || !take(INT) || !take(';')) {
                return false;
            }
            int from = churchAt(first + 1);
            int to = churchAt(first + 2);
            if (from >= 0 && to >= 0 && text.far(from, to) != UNREACHED) {
                refuseLate(TWICE, first + 2);
            }
            text.addRoad(from, to, numberAt(first + 3, 1, MOST_LENGTH));
            return true;
        }

        private boolean readRelic() {
            int first = at;
            if (text.relics() >= MOST_RELICS) {
                return refuse(ROOM);
            }
            if (!take(WORD_RELIC) || !take(NAME) || !take(NAME)) {
                return false;
            }
            boolean copy = kind == WORD_COPY;
            if (!take(copy ? WORD_COPY : WORD_TRUE) || !take(';')) {
                return false;
            }
            addName(first + 1);
            text.addRelic(churchAt(first + 2), !copy);
            return true;
        }

        private boolean readPilgrim() {
            int first = at;
            if (text.pilgrims() >= MOST_PILGRIMS) {
                return refuse(ROOM);
            }
            if (!take(WORD_PILGRIM) || !take(NAME) || !take(NAME) || !take(INT) || !take(INT) || !take(';')) {
                return false;
            }
            addName(first + 1);
            int home = churchAt(first + 2);
            int need = numberAt(first + 3, 0, MOST_NEED);
            text.addPilgrim(home, need, numberAt(first + 4, 0, MOST_NEED));
            return true;
        }

        private boolean readSeed() {
            int first = at;
            if (!take(WORD_SEED) || !take(INT) || !take(';')) {
                return false;
            }
            text.sow((int) tokens.valueAt(first + 1));
            return true;
        }

        private void addName(int token) {
            if (!text.addName(tokens.valueAt(token))) {
                refuseLate(TWICE, token);
            }
        }

        private int churchAt(int token) {
            int church = text.churchNamed(tokens.valueAt(token));
            if (church < 0) {
                refuseLate(NO_CHURCH, token);
            }
            return church;
        }

        private int numberAt(int token, int least, int most) {
            int number = (int) tokens.valueAt(token);
            if (!isWithin(number, least, most)) {
                refuseLate(WRONG, token);
            }
            return number;
        }

        private boolean readLaw() {
            int law = kind - WORD_DRAWS;
            if (kind < WORD_DRAWS || kind > WORD_CAUGHT) {
                return refuse(SYNTAX);
            }
            if (!take(kind) || !take('=')) {
                return false;
            }
            laws.begin(law);
            for (int ifs = 0; kind == WORD_IF && ifs <= MOST_IFS; ifs++) {
                if (ifs == MOST_IFS) {
                    return refuse(ROOM);
                }
                if (!readIf()) {
                    return false;
                }
            }
            if (!readSum(0)) {
                return false;
            }
            laws.emit(Laws.ANSWER, 0);
            return take(';');
        }

        private boolean readIf() {
            if (!take(WORD_IF) || !readSum(0) || !take('<') || !readSum(0) || !take(WORD_THEN)) {
                return false;
            }
            int jump = laws.emit(Laws.UNLESS_LESS, 0);
            if (!readSum(0)) {
                return false;
            }
            laws.emit(Laws.ANSWER, 0);
            laws.aimHere(jump);
            return take(WORD_ELSE);
        }

        /** An E, its PARTs in the inner loop; a sign waits until what stands behind it is emitted. */
        private boolean readSum(int depth) {
            int waiting = NONE;
            for (int parts = 0; parts <= MOST_TOKENS; parts++) {
                if (!readUnit(depth)) {
                    return false;
                }
                for (int units = 0; (kind == '*' || kind == '/') && units <= MOST_TOKENS; units++) {
                    int sign = kind;
                    if (!take(sign) || !readUnit(depth)) {
                        return false;
                    }
                    laws.emit(sign, 0);
                }
                if (waiting != NONE) {
                    laws.emit(waiting, 0);
                }
                if (kind != '+' && kind != '-') {
                    return true;
                }
                waiting = kind;
                if (!take(waiting)) {
                    return false;
                }
            }
            return refuse(ROOM);
        }

        private boolean readUnit(int depth) {
            if (kind == '(') {
                if (depth >= MOST_DEEP) {
                    return refuse(ROOM);
                }
                return take('(') && readSum(depth + 1) && take(')');
            }
            if (kind == INT) {
                laws.emit(Laws.NUMBER, (int) tokens.valueAt(at));
                return take(INT);
            }
            if (kind >= WORD_RELICS && kind < WORD_RELICS + MANY_VARS) {
                laws.emit(Laws.VAR, kind - WORD_RELICS);
                return take(kind);
            }
            return refuse(SYNTAX);
        }
    }

    /**
     * The five LAWS of a Text as steps for a stack, all in one row: operands go on the stack, a sign (its own
     * byte) works on the two on top. What an if leaves out is jumped over, so it is never looked at.
     */
    private static final class Laws {
        static final int NUMBER = 0;
        static final int VAR = 1;
        static final int UNLESS_LESS = 2;
        static final int ANSWER = 3;
        /** A TOKEN makes one step at most; the laws that were not told make 16. */
        private static final int MOST_STEPS = MOST_TOKENS + 20;
        /** Two operands may wait at each depth of brackets, one more at a '<'. */
        private static final int MOST_WAITING = 2 * MOST_DEEP + 8;

        private final int[] steps = new int[MOST_STEPS];
        private final int[] args = new int[MOST_STEPS];
        private final int[] starts = new int[MANY_LAWS];
        private final int[] vars = new int[MANY_VARS];
        private final int[] stack = new int[MOST_WAITING];
        private int used;

        void clear() {
            used = 0;
            begin(DRAWS);
            emit(VAR, RELICS);
            emit(ANSWER, 0);
            beginTimes(HEALS, TRUTH, 50);
            begin(GIVES);
            emit(VAR, GIFT);
            emit(ANSWER, 0);
            beginTimes(LEAVE, NIGHTS, 10);
            beginTimes(CAUGHT, WATCH, 10);
        }

        private void beginTimes(int law, int which, int factor) {
            begin(law);
            emit(VAR, which);
            emit(NUMBER, factor);
            emit('*', 0);
            emit(ANSWER, 0);
        }

        /** What is emitted from here on is this law, in place of an earlier one. */
        void begin(int law) {
            if (law >= 0 && law < MANY_LAWS) {
                starts[law] = used;
            }
        }

        int emit(int step, int arg) {
            if (used < 0 || used >= MOST_STEPS) {
                return NONE;
            }
            steps[used] = step;
            args[used] = arg;
            used++;
            return used - 1;
        }

        void aimHere(int jump) {
            if (jump >= 0 && jump < used) {
                args[jump] = used;
            }
        }

        void clearVars() {
            for (int i = 0; i < MANY_VARS; i++) {
                vars[i] = 0;
            }
        }

        void setVar(int which, int value) {
            if (which >= 0 && which < MANY_VARS) {
                vars[which] = value;
            }
        }

        private int varOf(int which) {
            return which >= 0 && which < MANY_VARS ? vars[which] : 0;
        }

        /** What a law tells by the vars as they are set. */
        int value(int law) {
            if (law < 0 || law >= MANY_LAWS) {
                return 0;
            }
            int top = 0;
            for (int at = Math.max(0, starts[law]); at < used && at < MOST_STEPS; at++) {
                int step = steps[at];
                if (step == ANSWER) {
                    return top > 0 && top <= MOST_WAITING ? stack[top - 1] : 0;
                }
                if (step == NUMBER || step == VAR) {
                    if (top < 0 || top >= MOST_WAITING) {
                        return 0;
                    }
                    stack[top] = step == NUMBER ? args[at] : varOf(args[at]);
                    top++;
                    continue;
                }
                if (top < 2 || top > MOST_WAITING) {
                    return 0;
                }
                top -= 2;
                int left = stack[top];
                int right = stack[top + 1];
                if (step == UNLESS_LESS) {
                    // Jumps go forward alone, so the loop comes to its end.
                    at = left < right ? at : Math.max(at, args[at] - 1);
                } else if (step == '/' && right == 0) {
                    return 0;
                } else {
                    stack[top] = worked(step, left, right);
                    top++;
                }
            }
            return 0;
        }

        private static int worked(int sign, int left, int right) {
            switch (sign) {
                case '+':
                    return left + right;
                case '-':
                    return left - right;
                case '*':
                    return left * right;
                default:
                    return right == 0 ? 0 : left / right;
            }
        }
    }

    /** What a text has told; it stays as it is until another one is read. */
    private static final class Text {
        private final Laws laws = new Laws();
        private final long[] names = new long[MOST_NAMES];
        private final long[] churchNames = new long[MOST_CHURCHES];
        private final int[] watchers = new int[MOST_CHURCHES];
        private final int[] fars = new int[MOST_CHURCHES * MOST_CHURCHES];
        private final int[] relicChurches = new int[MOST_RELICS];
        private final int[] homes = new int[MOST_PILGRIMS];
        private final int[] needs = new int[MOST_PILGRIMS];
        private final int[] gifts = new int[MOST_PILGRIMS];
        private int named;
        private int churches;
        private int roads;
        private int relics;
        private int trueRelics;
        private int pilgrims;
        private int seed;

        Text() {
            clear();
        }

        void clear() {
            laws.clear();
            named = 0;
            churches = 0;
            roads = 0;
            relics = 0;
            trueRelics = 0;
            pilgrims = 0;
            seed = 0;
            for (int i = 0; i < fars.length; i++) {
                fars[i] = i / MOST_CHURCHES == i % MOST_CHURCHES ? 0 : UNREACHED;
            }
        }

        Laws laws() {
            return laws;
        }

        int churches() {
            return churches;
        }

        int roads() {
            return roads;
        }

        int relics() {
            return relics;
        }

        int trueRelics() {
            return trueRelics;
        }

        int pilgrims() {
            return pilgrims;
        }

        int seed() {
            return seed;
        }

        boolean hasChurch(int church) {
            return church >= 0 && church < churches;
        }

        boolean hasRelic(int relic) {
            return relic >= 0 && relic < relics;
        }

        boolean hasPilgrim(int pilgrim) {
            return pilgrim >= 0 && pilgrim < pilgrims;
        }

        int truth(int relic) {
            return relic >= 0 && relic < relics ? (trueRelics >> relic) & 1 : 0;
        }

        int watchersOf(int church) {
            return church >= 0 && church < churches ? watchers[church] : 0;
        }

        /** NONE where there is no such relic: then it counts at no church. */
        int churchOf(int relic) {
            return relic >= 0 && relic < relics ? relicChurches[relic] : NONE;
        }

        int home(int pilgrim) {
            return pilgrim >= 0 && pilgrim < pilgrims ? homes[pilgrim] : NONE;
        }

        int needOf(int pilgrim) {
            return pilgrim >= 0 && pilgrim < pilgrims ? needs[pilgrim] : 0;
        }

        int giftOf(int pilgrim) {
            return pilgrim >= 0 && pilgrim < pilgrims ? gifts[pilgrim] : 0;
        }

        int far(int from, int to) {
            boolean both = from >= 0 && from < churches && to >= 0 && to < churches;
            return both ? fars[from * MOST_CHURCHES + to] : UNREACHED;
        }

        int churchNamed(long name) {
            for (int church = 0; church < churches; church++) {
                if (churchNames[church] == name) {
                    return church;
                }
            }
            return NONE;
        }

        /** False if it was told already. */
        boolean addName(long name) {
            for (int i = 0; i < named; i++) {
                if (names[i] == name) {
                    return false;
                }
            }
            if (named < MOST_NAMES) {
                names[named] = name;
                named++;
            }
            return true;
        }

        void addChurch(long name, int many) {
            if (churches < MOST_CHURCHES) {
                churchNames[churches] = name;
                watchers[churches] = many;
                churches++;
            }
        }

        void addRoad(int from, int to, int length) {
            roads++;
            if (hasChurch(from) && hasChurch(to)) {
                fars[from * MOST_CHURCHES + to] = length;
                fars[to * MOST_CHURCHES + from] = length;
            }
        }

        void addRelic(int church, boolean isTrue) {
            if (relics < MOST_RELICS) {
                relicChurches[relics] = church;
                trueRelics |= isTrue ? 1 << relics : 0;
                relics++;
            }
        }

        void addPilgrim(int home, int need, int gift) {
            if (pilgrims < MOST_PILGRIMS) {
                homes[pilgrims] = home;
                needs[pilgrims] = need;
                gifts[pilgrims] = gift;
                pilgrims++;
            }
        }

        void sow(int number) {
            seed = number;
        }

        /** Until this, a far is the length of one road; from this on, the least sum of lengths. */
        void joinRoads() {
            for (int by = 0; by < churches; by++) {
                for (int from = 0; from < churches; from++) {
                    for (int to = 0; to < churches; to++) {
                        int sum = far(from, by) + far(by, to);
                        if (sum < far(from, to)) {
                            fars[from * MOST_CHURCHES + to] = sum;
                        }
                    }
                }
            }
        }
    }

    /** All that goes on, in one row of cells, so that it is held and undone as a whole. */
    private static final class State {
        static final int WATCHERS = 0;
        static final int CHURCH_WONDERS = WATCHERS + MOST_CHURCHES;
        static final int TOOK = CHURCH_WONDERS + MOST_CHURCHES;
        /** Which relics are there, as bits: by the cells of RELIC_CHURCH, kept beside them to be at hand. */
        static final int RELICS_AT = TOOK + MOST_CHURCHES;
        static final int RELIC_CHURCH = RELICS_AT + MOST_CHURCHES;
        static final int RELIC_WONDERS = RELIC_CHURCH + MOST_RELICS;
        static final int CARRIED = RELIC_WONDERS + MOST_RELICS;
        static final int GIVEN = CARRIED + MOST_RELICS;
        static final int PILGRIM_WONDERS = GIVEN + MOST_PILGRIMS;
        static final int YEAR = PILGRIM_WONDERS + MOST_PILGRIMS;
        static final int TRIED = YEAR + 1;
        static final int THIEVES_CAUGHT = TRIED + 1;
        static final int SIZE = THIEVES_CAUGHT + 1;

        private final int[] cells = new int[SIZE];

        int get(int cell) {
            return cell >= 0 && cell < SIZE ? cells[cell] : 0;
        }

        void set(int cell, int value) {
            if (cell >= 0 && cell < SIZE) {
                cells[cell] = value;
            }
        }

        void add(int cell, int more) {
            if (cell >= 0 && cell < SIZE) {
                cells[cell] += more;
            }
        }

        int total(int from, int many) {
            int sum = 0;
            for (int i = 0; i < many; i++) {
                sum += get(from + i);
            }
            return sum;
        }

        /** To a church, or to NONE of them. */
        void move(int relic, int church) {
            int bit = 1 << relic;
            int from = get(RELIC_CHURCH + relic);
            if (isWithin(from, 0, MOST_CHURCHES - 1)) {
                set(RELICS_AT + from, get(RELICS_AT + from) & ~bit);
            }
            if (isWithin(church, 0, MOST_CHURCHES - 1)) {
                set(RELICS_AT + church, get(RELICS_AT + church) | bit);
            }
            set(RELIC_CHURCH + relic, church);
        }

        void exchange(int relic, int other) {
            int church = get(RELIC_CHURCH + relic);
            move(relic, get(RELIC_CHURCH + other));
            move(other, church);
        }

        void begin(Text text) {
            for (int i = 0; i < SIZE; i++) {
                cells[i] = 0;
            }
            for (int church = 0; church < MOST_CHURCHES; church++) {
                cells[WATCHERS + church] = text.watchersOf(church);
            }
            for (int relic = 0; relic < MOST_RELICS; relic++) {
                cells[RELIC_CHURCH + relic] = NONE;
                move(relic, text.churchOf(relic));
            }
        }

        void copyOf(State other) {
            for (int i = 0; i < SIZE; i++) {
                cells[i] = other.cells[i];
            }
        }

        /** Writes itself as the row with a number among rows of its size. */
        void writeTo(int[] rows, int row) {
            for (int i = 0; i < SIZE; i++) {
                int index = row * SIZE + i;
                if (index >= 0 && index < rows.length) {
                    rows[index] = cells[i];
                }
            }
        }

        void readFrom(int[] rows, int row) {
            for (int i = 0; i < SIZE; i++) {
                int index = row * SIZE + i;
                if (index >= 0 && index < rows.length) {
                    cells[i] = rows[index];
                }
            }
        }
    }

    /** How a State goes on by the laws of a Text, and what they tell in it. */
    private static final class Course {
        private final int[] goals = new int[MOST_PILGRIMS];
        private final int[] written = new int[MOST_PILGRIMS];
        private Text text;
        private Laws laws;

        Course(Text first) {
            text = first;
            laws = first.laws();
        }

        void turnTo(Text other) {
            text = other;
            laws = other.laws();
        }

        Text text() {
            return text;
        }

        /** The relics at which the last year that was gone through wrote a wonder for a pilgrim, as bits. */
        int writtenFor(int pilgrim) {
            return pilgrim >= 0 && pilgrim < MOST_PILGRIMS ? written[pilgrim] : 0;
        }

        private static int lot(int seed, int which) {
            return mixed(mixed(seed, 111), which) >>> 1;
        }

        private static int mixed(int h, int with) {
            int next = (h ^ with) * 1103515245 + 12345;
            return next ^ (next >>> 15);
        }

        private static boolean falls(int seed, int which, int likely) {
            return lot(seed, which) % HUNDRED < likely;
        }

        /** What every law looks at; all else is 0 until it is set. */
        private void lookAt(State state, int church) {
            laws.clearVars();
            laws.setVar(RELICS, Integer.bitCount(state.get(State.RELICS_AT + church)));
            laws.setVar(YEARS, state.get(State.YEAR));
        }

        private void lookAtPilgrim(State state, int pilgrim, int church) {
            laws.setVar(WONDERS, state.get(State.CHURCH_WONDERS + church));
            laws.setVar(FAR, text.far(text.home(pilgrim), church));
            laws.setVar(NEED, text.needOf(pilgrim));
            laws.setVar(GIFT, text.giftOf(pilgrim));
        }

        /** What DRAWS, or GIVES, tells of a pilgrim and a church. */
        int visitValue(int law, State state, int pilgrim, int church) {
            lookAt(state, church);
            lookAtPilgrim(state, pilgrim, church);
            laws.setVar(WATCH, state.get(State.WATCHERS + church));
            laws.setVar(TRUTH, Integer.bitCount(state.get(State.RELICS_AT + church) & text.trueRelics()));
            int told = laws.value(law);
            return law == GIVES ? heldTo(told, MOST_GIVEN) : told;
        }

        /** By a truth that may be another than the relic's own. */
        int healing(State state, int relic, int pilgrim, int truth) {
            int church = state.get(State.RELIC_CHURCH + relic);
            lookAt(state, church);
            lookAtPilgrim(state, pilgrim, church);
            laws.setVar(TRUTH, truth);
            return heldTo(laws.value(HEALS), HUNDRED);
        }

        private int leaving(State state, int relic, int nights) {
            int church = state.get(State.RELIC_CHURCH + relic);
            lookAt(state, church);
            laws.setVar(WONDERS, state.get(State.CHURCH_WONDERS + church));
            laws.setVar(NIGHTS, nights);
            laws.setVar(TRUTH, text.truth(relic));
            return heldTo(laws.value(LEAVE), HUNDRED);
        }

        /** By watchers that may be more or fewer than the church has. */
        private int catching(State state, int church, int watchers, int nights) {
            lookAt(state, church);
            laws.setVar(NIGHTS, nights);
            laws.setVar(WATCH, watchers);
            return heldTo(laws.value(CAUGHT), HUNDRED);
        }

        int goal(State state, int pilgrim) {
            int best = NOTHING;
            int most = 0;
            int home = text.home(pilgrim);
            for (int church = 0; church < text.churches(); church++) {
                if (text.far(home, church) != UNREACHED && state.get(State.RELICS_AT + church) != 0) {
                    int draws = visitValue(DRAWS, state, pilgrim, church);
                    if (best < 0 || draws > most) {
                        best = church;
                        most = draws;
                    }
                }
            }
            return best;
        }

        void pass(State state, int seed, int years) {
            for (int i = 0; i < years; i++) {
                // All choose before any wonder of this year is written.
                for (int pilgrim = 0; pilgrim < MOST_PILGRIMS; pilgrim++) {
                    goals[pilgrim] = text.hasPilgrim(pilgrim) ? goal(state, pilgrim) : NOTHING;
                }
                for (int pilgrim = 0; pilgrim < MOST_PILGRIMS; pilgrim++) {
                    written[pilgrim] = goals[pilgrim] < 0 ? 0 : visit(state, seed, pilgrim, goals[pilgrim]);
                }
                state.add(State.YEAR, 1);
            }
        }

        /** The relics at which a wonder was written, as bits. */
        private int visit(State state, int seed, int pilgrim, int church) {
            int bits = state.get(State.RELICS_AT + church);
            int wonders = 0;
            for (int relic = 0; relic < MOST_RELICS; relic++) {
                if (((bits >> relic) & 1) != 0) {
                    int which = 64 * state.get(State.YEAR) + 8 * pilgrim + relic;
                    if (falls(seed, which, healing(state, relic, pilgrim, text.truth(relic)))) {
                        wonders |= 1 << relic;
                        state.add(State.CHURCH_WONDERS + church, 1);
                        state.add(State.RELIC_WONDERS + relic, 1);
                        state.add(State.PILGRIM_WONDERS + pilgrim, 1);
                    }
                }
            }
            int gives = visitValue(GIVES, state, pilgrim, church);
            state.add(State.TOOK + church, gives);
            state.add(State.GIVEN + pilgrim, gives);
            return wonders;
        }

        /** 2: the thief is caught, 1: it is carried off, 0: it stays. */
        int tryTheft(State state, int relic, int church, int nights) {
            int tried = state.get(State.TRIED);
            int from = state.get(State.RELIC_CHURCH + relic);
            int watchers = state.get(State.WATCHERS + from);
            state.add(State.TRIED, 1);
            if (falls(text.seed(), CAUGHT_LOT + tried, catching(state, from, watchers, nights))) {
                state.set(State.WATCHERS + from, Math.min(MOST_WATCHERS, watchers + 1));
                state.add(State.THIEVES_CAUGHT, 1);
                return 2;
            }
            if (falls(text.seed(), LEAVE_LOT + tried, leaving(state, relic, nights))) {
                state.move(relic, church);
                state.add(State.CARRIED + relic, 1);
                return 1;
            }
            return 0;
        }

        /** How likely a theft is, of 10,000. */
        int likely(State state, int relic, int nights) {
            int church = state.get(State.RELIC_CHURCH + relic);
            int watchers = state.get(State.WATCHERS + church);
            return leaving(state, relic, nights) * (HUNDRED - catching(state, church, watchers, nights));
        }

        int bestNights(State state, int relic) {
            int best = 1;
            int most = likely(state, relic, 1);
            for (int nights = 2; nights <= MOST_NIGHTS; nights++) {
                int now = likely(state, relic, nights);
                if (now > most) {
                    best = nights;
                    most = now;
                }
            }
            return best;
        }

        int weakest(State state) {
            int best = NOTHING;
            int most = 0;
            for (int relic = 0; relic < text.relics(); relic++) {
                int now = likely(state, relic, bestNights(state, relic));
                if (best < 0 || now > most) {
                    best = relic;
                    most = now;
                }
            }
            return best;
        }

        int watchersFor(State state, int church, int least, int nights) {
            for (int many = 0; many <= MOST_WATCHERS; many++) {
                if (catching(state, church, many, nights) >= least) {
                    return many;
                }
            }
            return NOTHING;
        }
    }

    /** What would be: years gone through on a trial State, so that the live one stays as it is. */
    private static final class Forecast {
        private final Course course;
        private final State live;
        private final State trial = new State();
        private final int[] tookElse = new int[MOST_CHURCHES];

        Forecast(Course course, State live) {
            this.course = course;
            this.live = live;
        }

        /** The trial State as it would be in some years; another forecast overwrites it. */
        State after(int years) {
            trial.copyOf(live);
            course.pass(trial, course.text().seed(), years);
            return trial;
        }

        int more(int cell, int years) {
            return after(years).get(cell) - live.get(cell);
        }

        /** What each church took by the trial State, kept to be weighed against. */
        private void keepTook() {
            for (int church = 0; church < MOST_CHURCHES; church++) {
                tookElse[church] = trial.get(State.TOOK + church);
            }
        }

        private int tookMoreThanElse(int church) {
            return isWithin(church, 0, MOST_CHURCHES - 1) ? trial.get(State.TOOK + church) - tookElse[church] : 0;
        }

        private void passWithRelicAt(int relic, int church, int years) {
            trial.copyOf(live);
            trial.move(relic, church);
            course.pass(trial, course.text().seed(), years);
        }

        int bestHome(int relic, int years, boolean howMuch) {
            passWithRelicAt(relic, NONE, years);
            keepTook();
            int best = NOTHING;
            int most = 0;
            for (int church = 0; church < course.text().churches(); church++) {
                passWithRelicAt(relic, church, years);
                int more = tookMoreThanElse(church);
                if (best < 0 || more > most) {
                    best = church;
                    most = more;
                }
            }
            return howMuch ? most : best;
        }

        /** How many pairs there are, or the first. */
        int barters(int years, boolean wantsFirst) {
            after(years);
            keepTook();
            int many = 0;
            int first = NOTHING;
            int relics = course.text().relics();
            for (int relic = 0; relic < relics; relic++) {
                for (int other = relic + 1; other < relics; other++) {
                    if (bothGain(relic, other, years)) {
                        many++;
                        first = first < 0 ? 10 * relic + other : first;
                    }
                }
            }
            return wantsFirst ? first : many;
        }

        private boolean bothGain(int relic, int other, int years) {
            int church = live.get(State.RELIC_CHURCH + relic);
            int otherChurch = live.get(State.RELIC_CHURCH + other);
            if (church == otherChurch) {
                return false;
            }
            trial.copyOf(live);
            trial.exchange(relic, other);
            course.pass(trial, course.text().seed(), years);
            return tookMoreThanElse(church) > 0 && tookMoreThanElse(otherChurch) > 0;
        }

        int richest(int years, boolean howMuch) {
            after(years);
            int best = NOTHING;
            int most = 0;
            for (int church = 0; church < course.text().churches(); church++) {
                int more = trial.get(State.TOOK + church) - live.get(State.TOOK + church);
                if (best < 0 || more > most) {
                    best = church;
                    most = more;
                }
            }
            return howMuch && best >= 0 ? most : best;
        }

        int mostFamed(int years) {
            after(years);
            int best = NOTHING;
            int most = 0;
            for (int church = 0; church < course.text().churches(); church++) {
                int wonders = trial.get(State.CHURCH_WONDERS + church);
                if (best < 0 || wonders > most) {
                    best = church;
                    most = wonders;
                }
            }
            return best;
        }

        int seedsWithWonder(int relic, int years, int seeds) {
            int many = 0;
            for (int i = 0; i < seeds; i++) {
                if (hasWonderBy(course.text().seed() + i, relic, years)) {
                    many++;
                }
            }
            return many;
        }

        private boolean hasWonderBy(int seed, int relic, int years) {
            int before = live.get(State.RELIC_WONDERS + relic);
            trial.copyOf(live);
            for (int i = 0; i < years; i++) {
                course.pass(trial, seed, 1);
                if (trial.get(State.RELIC_WONDERS + relic) > before) {
                    return true;
                }
            }
            return false;
        }
    }

    /** What can be gone back to: the States ahead of the last things done, in a ring, and the SLOTS. */
    private static final class Past {
        private final int[] rows = new int[MOST_UNDONE * State.SIZE];
        private final int[] slots = new int[SLOTS * State.SIZE];
        private final boolean[] held = new boolean[SLOTS];
        private int next;
        private int many;

        void clear() {
            many = 0;
            for (int slot = 0; slot < SLOTS; slot++) {
                held[slot] = false;
            }
        }

        int size() {
            return many;
        }

        int slotsHeld() {
            int all = 0;
            for (int slot = 0; slot < SLOTS; slot++) {
                all += held[slot] ? 1 : 0;
            }
            return all;
        }

        /** Kept ahead of a thing that is done; the oldest of forty gives way. */
        void keep(State state) {
            state.writeTo(rows, next);
            next = (next + 1) % MOST_UNDONE;
            many = Math.min(MOST_UNDONE, many + 1);
        }

        boolean takeBack(State state) {
            if (many == 0) {
                return false;
            }
            next = (next + MOST_UNDONE - 1) % MOST_UNDONE;
            many--;
            state.readFrom(rows, next);
            return true;
        }

        boolean putInSlot(State state, int slot) {
            if (!isWithin(slot, 0, SLOTS - 1)) {
                return false;
            }
            state.writeTo(slots, slot);
            held[slot] = true;
            return true;
        }

        boolean takeFromSlot(State state, int slot) {
            if (!isWithin(slot, 0, SLOTS - 1) || !held[slot]) {
                return false;
            }
            state.readFrom(slots, slot);
            many = 0;
            return true;
        }
    }

    /** What was TOLD of a relic unknown. */
    private static final class Told {
        private final int[] pilgrims = new int[MOST_TOLD];
        private final boolean[] wonders = new boolean[MOST_TOLD];
        private int many;

        void clear() {
            many = 0;
        }

        int size() {
            return many;
        }

        int add(int pilgrim, boolean wonder) {
            if (many >= MOST_TOLD) {
                return NONE;
            }
            pilgrims[many] = pilgrim;
            wonders[many] = wonder;
            many++;
            return many - 1;
        }

        /** Of so many relics, those with which the first ones told agree, by the year that was just tried. */
        int relicsLeft(int known, int relics, Course course) {
            int left = (1 << relics) - 1;
            for (int i = 0; i < known && i < many; i++) {
                int written = course.writtenFor(pilgrims[i]);
                left &= wonders[i] ? written : ~written;
            }
            return left;
        }

        int bestToAsk(int left, int manyPilgrims, Course course) {
            int best = NOTHING;
            int fewest = 0;
            for (int pilgrim = 0; pilgrim < manyPilgrims; pilgrim++) {
                int yes = Integer.bitCount(left & course.writtenFor(pilgrim));
                int worst = Math.max(yes, Integer.bitCount(left) - yes);
                if (best < 0 || worst < fewest) {
                    best = pilgrim;
                    fewest = worst;
                }
            }
            return best;
        }
    }
}
