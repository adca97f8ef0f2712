import java.util.NoSuchElementException;

/**
 * A house of things one behind the other, with faults that heal by themselves or by deeds.
 *
 * <p>All rows are made once, with the object: a call makes nothing but the exception that it throws.
 */
public final class OffThenOn {
    public static final int NONE = -1;

    private static final int MOST_THINGS = 6;
    private static final int MOST_FAULTS = 8;
    private static final int MOST_CURES = 16;
    private static final int MOST_HOUSE_BYTES = 900;
    private static final int MOST_LOG_BYTES = 400;
    private static final int MOST_LOG_LINES = 40;
    private static final int MOST_SENTENCE_BYTES = 200;
    private static final int MOST_ONES = 20;
    private static final int MOST_WITHIN = 8;
    private static final int MOST_TAPE_BYTES = 940;
    private static final int MOST_TOLD_BYTES = 32;
    private static final int MOST_UNDONE = 8;
    private static final int PLACES = 2;
    private static final int MOST_AT_ONCE = 60;
    private static final int MOST_SEEDS = 30;
    private static final int MOST_WAITED = 240;
    private static final int LAST_MINUTE = 1000;

    private static final int DEEDS = 3;
    private static final int DEED_OFF = 0;
    private static final int DEED_CABLE = 1;
    private static final int DEED_PIN = 2;
    private static final int CALL = 3;
    private static final int TWELFTHS = 12;

    private static final int OFF = 0;
    private static final int BOOTS = 1;
    private static final int UP = 2;

    private static final int LAMP_OFF = 0;
    private static final int LAMP_BOOTS = 16;
    private static final int LAMP_NO_NUMBER = 17;
    private static final int LAMP_WELL = 18;

    private static final int BAD_TOKEN = 1;
    private static final int BAD_NUMBER = 2;
    private static final int BAD_NAME = 3;
    private static final int TOO_MANY = 4;

    // A WORD is held as its letters, a byte each, the last one lowest: seven of them fit a long.
    private static final long[] KEYWORDS = {
        0x7468696e67L, // thing
        0x626568696e64L, // behind
        0x6661756c74L, // fault
        0x6375726573L, // cures
        0x6f6666L, // off
        0x6361626c65L, // cable
        0x70696eL, // pin
        0x6f6eL, // on
        0x737472696b6573L, // strikes
        0x6d696e757465L, // minute
        0x6f72L, // or
        0x616e64L, // and
        0x6e6f74L, // not
        0x776f726b73L, // works
        0x7570L, // up
        0x626f6f7473L, // boots
        0x686173L, // has
        0x6c616d70L, // lamp
        0x646f776eL, // down
        0x6e756d626572L, // number
    };
    private static final int WORD_THING = 0;
    private static final int WORD_BEHIND = 1;
    private static final int WORD_FAULT = 2;
    private static final int WORD_CURES = 3;
    private static final int WORD_OFF = 4;
    private static final int WORD_CABLE = 5;
    private static final int WORD_PIN = 6;
    private static final int WORD_ON = 7;
    private static final int WORD_STRIKES = 8;
    private static final int WORD_MINUTE = 9;
    private static final int WORD_OR = 10;
    private static final int WORD_AND = 11;
    private static final int WORD_NOT = 12;
    private static final int WORD_WORKS = 13;
    private static final int WORD_UP = 14;
    private static final int WORD_BOOTS = 15;
    private static final int WORD_HAS = 16;
    private static final int WORD_LAMP = 17;
    private static final int WORD_DOWN = 18;
    private static final int WORD_NUMBER = 19;

    private final Bytes tape = new Bytes(MOST_TAPE_BYTES);
    private final World world = new World();
    private final World[] kept = new World[PLACES];
    private final History history = new History();
    private final State scratch = new State();
    private final HouseReader houseReader = new HouseReader();
    private final LogReader logReader = new LogReader();
    private final SentenceReader sentenceReader = new SentenceReader();
    private final Planner planner = new Planner();
    private final Bytes told = new Bytes(MOST_TOLD_BYTES);
    private final int[] likelyOdds = new int[MOST_FAULTS];
    private final int[] judged = new int[4];
    private int likelyFaults;
    private int textFault;
    private int ways = NONE;
    private int leftByLook = NONE;
    private boolean hasJudged;

    public OffThenOn() {
        for (int k = 0; k < PLACES; k++) {
            kept[k] = new World();
        }
    }

    public int feed(int a, int b, int c, int d, int e) {
        if (tape.size + 20 > MOST_TAPE_BYTES) {
            return NONE;
        }
        tape.addInt(a);
        tape.addInt(b);
        tape.addInt(c);
        tape.addInt(d);
        tape.addInt(e);
        return tape.size;
    }

    public boolean end(int n) {
        if (n < 0 || n > tape.size) {
            return false;
        }
        tape.size = n;
        return true;
    }

    public int house() {
        boolean right = houseReader.readHouse(tape);
        takeText(houseReader.reader);
        if (!right) {
            return -1 - houseReader.reader.wrongPlace;
        }
        world.house.copyFrom(houseReader.draft);
        world.state.makeNew();
        world.sentence.clear();
        history.clear();
        return houseReader.lines;
    }

    public int fault() {
        return textFault;
    }

    public int thing(int t, int what) throws NoSuchElementException {
        if (!isThing(t) || what < 0 || what > 8) {
            throw new NoSuchElementException();
        }
        House h = world.house;
        State s = world.state;
        switch (what) {
            case 0:
                return h.boots[t];
            case 1:
                return h.waits[t];
            case 2:
                return h.behinds[t];
            case 3:
                return s.modes[t];
            case 4:
                return s.clocks[t];
            case 5:
                return bit(s.numbered, t);
            case 6:
                return s.lampOf(h, t, s.there);
            case 7:
                return bit(s.working(h), t);
            default:
                return s.downs[t];
        }
    }

    public int trouble(int f, int what) throws NoSuchElementException {
        if (!isFault(f) || what < 0 || what > 7) {
            throw new NoSuchElementException();
        }
        House h = world.house;
        State s = world.state;
        switch (what) {
            case 0:
                return h.homes[f];
            case 1:
                return h.healTimes[f];
            case 2:
                return h.chances[f];
            case 3:
                return h.shows[f];
            case 4:
                return bit(s.there, f);
            case 5:
                return s.ages[f];
            case 6:
                return s.struck[f];
            default:
                return s.healed[f];
        }
    }

    public int cures(int f, int deed) {
        if (!isFault(f) || deed < 0 || deed >= DEEDS) {
            return NONE;
        }
        return world.house.cureOf(f, deed);
    }

    public int now(int what) {
        State s = world.state;
        switch (what) {
            case 0:
                return s.minute;
            case 1:
                return s.working(world.house);
            case 2:
                return s.thingsIn(world.house, UP);
            case 3:
                return s.there;
            case 4:
                return s.deedsDone;
            case 5:
                return s.goneByDeeds;
            case 6:
                return s.goneByThemselves;
            default:
                return NONE;
        }
    }

    public int off(int t) {
        if (!isThing(t)) {
            return NONE;
        }
        history.prepare(world.state);
        return settle(world.state.switchOff(world.house, t));
    }

    public int on(int t, int seed) {
        if (!isThing(t)) {
            return NONE;
        }
        history.prepare(world.state);
        world.state.seed = seed;
        return settle(world.state.switchOn(world.house, t));
    }

    public int cable(int t, int seed) {
        if (!isThing(t)) {
            return NONE;
        }
        history.prepare(world.state);
        world.state.seed = seed;
        return settle(world.state.pullCable(world.house, t));
    }

    public int pin(int t, int seed) {
        if (!isThing(t)) {
            return NONE;
        }
        history.prepare(world.state);
        world.state.seed = seed;
        return settle(world.state.pushPin(world.house, t));
    }

    public int strike(int f) {
        if (!isFault(f)) {
            return NONE;
        }
        history.prepare(world.state);
        return settle(world.state.letStrike(f));
    }

    public int minutes(int n) {
        if (n < 1 || n > MOST_AT_ONCE) {
            return NONE;
        }
        history.prepare(world.state);
        int gone = world.state.passMinutes(world.house, n);
        if (gone > 0) {
            history.commit();
        }
        return gone;
    }

    public int undo() {
        return history.takeBack(world.state);
    }

    public int what() {
        int found = faultsByLamps();
        tape.size = 0;
        if (found > 0) {
            likelyFaults = found;
            System.arraycopy(world.house.chances, 0, likelyOdds, 0, MOST_FAULTS);
        }
        return found;
    }

    public int likely(int f, int what) throws NoSuchElementException {
        if (!isFault(f) || bit(likelyFaults, f) == 0 || what < 0 || what > 1) {
            throw new NoSuchElementException();
        }
        int all = 0;
        for (int g = 0; g < MOST_FAULTS; g++) {
            all += bit(likelyFaults, g) * likelyOdds[g];
        }
        return leastTerm(likelyOdds[f], all, what);
    }

    public int plan(int t, int set, int what) throws NoSuchElementException {
        if (!isThing(t) || set == 0 || what < 0 || what > 1 || (set & ~world.house.faultsOf[t]) != 0) {
            throw new NoSuchElementException();
        }
        planner.makePlan(world.house, t, set);
        return leastTerm(planner.fewest, planner.whole, what);
    }

    public int planAt(int k) {
        return k >= 0 && k < planner.bestSize ? planner.best[k] : NONE;
    }

    public int ready(int t) {
        return isThing(t) ? world.house.minutesTillUp(t) : NONE;
    }

    public int starts(int t) {
        return isThing(t) ? world.house.minutesTillUp(t) - world.house.boots[t] : NONE;
    }

    public int helped() throws NoSuchElementException {
        int done = eveningsWithDeed();
        if (done == NONE) {
            tape.size = 0;
            throw new NoSuchElementException();
        }
        int few = countWays(tape.size / 2, done);
        tape.size = 0;
        return few;
    }

    public int lots() {
        return ways;
    }

    public int alike(int f) {
        return isFault(f) ? world.house.lookingLike(f) & ~(1 << f) : NONE;
    }

    public int kinds() {
        int kinds = 0;
        for (int f = 0; f < world.house.faults; f++) {
            if ((world.house.lookingLike(f) & ((1 << f) - 1)) == 0) {
                kinds++;
            }
        }
        return kinds;
    }

    public int look(int set) {
        House h = world.house;
        if (set == 0 || (set & ~((1 << h.faults) - 1)) != 0) {
            return NONE;
        }
        int best = 0;
        int least = h.mostLeft(0, set);
        for (int t = 1; t < h.things; t++) {
            int most = h.mostLeft(t, set);
            if (most < least) {
                best = t;
                least = most;
            }
        }
        leftByLook = least;
        return best;
    }

    public int left() {
        return leftByLook;
    }

    public int fits(int t) {
        int fitting = NONE;
        if (isThing(t) && tape.size >= 1 && tape.size <= MOST_AT_ONCE) {
            fitting = faultsByMinutes(t);
        }
        tape.size = 0;
        return fitting;
    }

    public int heals(int f) {
        if (!isFault(f) || bit(world.state.there, f) == 0 || world.house.healTimes[f] == 0) {
            return NONE;
        }
        return world.house.healTimes[f] - world.state.ages[f];
    }

    public int worksIn(int t) {
        if (!isThing(t)) {
            return NONE;
        }
        scratch.copyFrom(world.state);
        for (int m = 0; m <= MOST_WAITED; m++) {
            if (bit(scratch.working(world.house), t) == 1) {
                return m;
            }
            if (scratch.passMinutes(world.house, 1) == 0) {
                return NONE;
            }
        }
        return NONE;
    }

    public int tell(int t) {
        if (!isThing(t)) {
            return NONE;
        }
        State s = world.state;
        told.size = 0;
        told.addWord(world.house.thingNames[t]);
        switch (s.lampOf(world.house, t, s.there)) {
            case LAMP_OFF:
                told.addText(" is off");
                break;
            case LAMP_BOOTS:
                told.addText(" boots ");
                told.addNumber(s.clocks[t]);
                break;
            case LAMP_NO_NUMBER:
                told.addText(" has no number");
                break;
            case LAMP_WELL:
                told.addText(bit(s.working(world.house), t) == 1 ? " works" : " waits");
                break;
            default:
                told.addText(" has ");
                told.addWord(world.house.faultNames[shownFault(t)]);
        }
        return told.size;
    }

    public int byteAt(int i) {
        return told.at(i);
    }

    public int drawn(int n, int seed) {
        if (n < 1 || n > MOST_AT_ONCE || world.house.things == 0) {
            return NONE;
        }
        history.prepare(world.state);
        world.state.seed = seed;
        int gone = world.state.drawMinutes(world.house, n);
        if (gone > 0) {
            history.commit();
        }
        return gone;
    }

    public int odds(int t, int n, int seed) {
        if (!isThing(t) || n < 1 || n > MOST_SEEDS) {
            return NONE;
        }
        int working = 0;
        for (int i = 0; i < n; i++) {
            scratch.copyFrom(world.state);
            scratch.seed = seed + i;
            scratch.drawMinutes(world.house, MOST_AT_ONCE);
            working += bit(scratch.working(world.house), t);
        }
        return working;
    }

    public int log(int lives) {
        if (lives < 0 || lives > 1) {
            return -1000;
        }
        boolean right = logReader.readLog(tape, world.house);
        takeText(logReader.reader);
        if (!right) {
            return -2 - logReader.reader.wrongPlace;
        }
        State s = scratch;
        if (lives == 1) {
            history.prepare(world.state);
            history.commit();
            s = world.state;
        } else {
            s.copyFrom(world.state);
        }
        int lived = logReader.live(world.house, s);
        hasJudged = true;
        judged[0] = logReader.why;
        judged[1] = lived;
        judged[2] = s.minute;
        judged[3] = s.working(world.house);
        return logReader.why == 0 ? NONE : lived;
    }

    public int logged(int what) {
        return hasJudged && what >= 0 && what < judged.length ? judged[what] : NONE;
    }

    public int sentence() {
        boolean right = sentenceReader.readSentence(tape, world.house);
        takeText(sentenceReader.reader);
        if (!right) {
            return -1 - sentenceReader.reader.wrongPlace;
        }
        world.sentence.copyFrom(sentenceReader.draft);
        return world.sentence.ones;
    }

    public int said(int k) {
        if (world.sentence.ones == 0) {
            return NONE;
        }
        int things = world.sentence.thingsOf(world.house, world.state);
        if (k == NONE) {
            return Integer.bitCount(things);
        }
        int before = 0;
        for (int t = 0; t < world.house.things; t++) {
            if (bit(things, t) == 1) {
                if (before == k) {
                    return t;
                }
                before++;
            }
        }
        return NONE;
    }

    public boolean image(int k) {
        if (k < 0 || k >= PLACES) {
            return false;
        }
        kept[k].copyFrom(world);
        kept[k].holds = true;
        return true;
    }

    public boolean restore(int k) {
        if (k < 0 || k >= PLACES || !kept[k].holds) {
            return false;
        }
        world.copyFrom(kept[k]);
        history.clear();
        return true;
    }

    public int count(int what) {
        switch (what) {
            case 0:
                return world.house.things;
            case 1:
                return world.house.faults;
            case 2:
                return world.house.curesTold;
            case 3:
                return tape.size;
            default:
                return NONE;
        }
    }

    private boolean isThing(int t) {
        return t >= 0 && t < world.house.things;
    }

    private boolean isFault(int f) {
        return f >= 0 && f < world.house.faults;
    }

    private void takeText(Reader reader) {
        tape.size = 0;
        textFault = reader.wrong;
    }

    /** An act that was not done leaves nothing to undo. */
    private int settle(int whyNot) {
        if (whyNot == 0) {
            history.commit();
        }
        return whyNot;
    }

    private int faultsByLamps() {
        House h = world.house;
        if (tape.size < 2 || tape.size > 2 * MOST_THINGS || tape.size % 2 != 0) {
            return NONE;
        }
        int found = (1 << h.faults) - 1;
        for (int i = 0; i < tape.size; i += 2) {
            int t = tape.at(i);
            if (!isThing(t)) {
                return NONE;
            }
            found &= h.faultsShowing(t, tape.at(i + 1));
        }
        return found;
    }

    /** How many evenings are of the first sort; NONE if the tape is not as told. */
    private int eveningsWithDeed() {
        if (tape.size < 4 || tape.size > 20 || tape.size % 2 != 0) {
            return NONE;
        }
        int done = 0;
        for (int i = 0; i < tape.size; i += 2) {
            int sort = tape.at(i);
            if (sort > 1) {
                return NONE;
            }
            done += sort;
        }
        return done == 0 || done == tape.size / 2 ? NONE : done;
    }

    private int countWays(int evenings, int done) {
        int asItWas = 0;
        for (int i = 0; i < evenings; i++) {
            asItWas |= tape.at(2 * i) << i;
        }
        int bound = minutesOfWay(asItWas, evenings);
        int few = 0;
        ways = 0;
        for (int way = 0; way < 1 << evenings; way++) {
            if (Integer.bitCount(way) == done) {
                ways++;
                if (minutesOfWay(way, evenings) <= bound) {
                    few++;
                }
            }
        }
        return few;
    }

    private int minutesOfWay(int way, int evenings) {
        int sum = 0;
        for (int i = 0; i < evenings; i++) {
            if (bit(way, i) == 1) {
                sum += tape.at(2 * i + 1);
            }
        }
        return sum;
    }

    private int faultsByMinutes(int t) {
        House h = world.house;
        int own = h.faultsOf[t];
        int fitting = own | 1 << MOST_FAULTS;
        scratch.copyFrom(world.state);
        // All its FAULTS grow older side by side: none of them changes when another heals.
        scratch.there = own;
        for (int f = 0; f < h.faults; f++) {
            scratch.ages[f] = 0;
        }
        for (int i = 0; i < tape.size; i++) {
            int lamp = tape.at(i);
            for (int f = 0; f <= MOST_FAULTS; f++) {
                if (bit(fitting, f) == 1 && scratch.lampOf(h, t, scratch.there & 1 << f) != lamp) {
                    fitting &= ~(1 << f);
                }
            }
            scratch.passMinutes(h, 1);
        }
        return fitting;
    }

    /** Of a THING that shows a FAULT: the first that shows most. */
    private int shownFault(int t) {
        int shown = 0;
        int most = 0;
        for (int f = 0; f < world.house.faults; f++) {
            if (bit(world.state.there & world.house.faultsOf[t], f) == 1 && world.house.shows[f] > most) {
                most = world.house.shows[f];
                shown = f;
            }
        }
        return shown;
    }

    private static int bit(int bits, int i) {
        return bits >> i & 1;
    }

    private static int leastTerm(int above, int below, int what) {
        int a = above;
        int b = below;
        // A million is far above the steps that two ints can need.
        for (int k = 0; k < 1000000 && b != 0; k++) {
            int rest = a % b;
            a = b;
            b = rest;
        }
        if (a == 0) {
            return 0;
        }
        return (what == 0 ? above : below) / a;
    }

    /** A row of bytes with an end. */
    private static final class Bytes {
        final byte[] row;
        int size;

        Bytes(int most) {
            row = new byte[most];
        }

        int at(int i) {
            return i >= 0 && i < size ? row[i] & 255 : NONE;
        }

        void add(int b) {
            if (size < row.length) {
                row[size] = (byte) b;
                size++;
            }
        }

        void addInt(int number) {
            add(number >>> 24);
            add(number >>> 16);
            add(number >>> 8);
            add(number);
        }

        void addWord(long letters) {
            for (int shift = 48; shift >= 0; shift -= 8) {
                int b = (int) (letters >>> shift) & 255;
                if (b != 0) {
                    add(b);
                }
            }
        }

        void addText(String text) {
            for (int i = 0; i < text.length(); i++) {
                add(text.charAt(i));
            }
        }

        void addNumber(int number) {
            if (number >= 10) {
                add('0' + number / 10 % 10);
            }
            add('0' + number % 10);
        }
    }

    /** Goes along a text TOKEN by TOKEN and keeps what is wrong first. */
    private static final class Reader {
        static final int END = 0;
        static final int BAD = 1;
        static final int WORD = 2;
        static final int NUMBER = 3;
        static final int SIGN = 4;

        private Bytes text = new Bytes(0);
        private int mostBytes;
        int sort;
        private int place;
        private int next;
        long letters;
        int keyword;
        int value;
        int wrong;
        int wrongPlace;

        void start(Bytes tape, int most) {
            text = tape;
            mostBytes = most;
            next = 0;
            wrong = 0;
            wrongPlace = 0;
            step();
        }

        void step() {
            int i = next;
            while (i < text.size && isBlank(text.at(i))) {
                i++;
            }
            place = i;
            next = i + 1;
            keyword = NONE;
            value = text.at(i);
            if (i >= mostBytes && text.size > mostBytes) {
                place = mostBytes;
                sort = BAD;
            } else if (i >= text.size) {
                place = text.size;
                sort = END;
            } else if (isLetter(value) || isDigit(value)) {
                readRun(i);
            } else {
                sort = isSign(value) ? SIGN : BAD;
            }
        }

        private void readRun(int from) {
            int i = from;
            int digits = 0;
            letters = 0;
            value = 0;
            while (i < text.size && (isLetter(text.at(i)) || isDigit(text.at(i)))) {
                int b = text.at(i);
                letters = letters << 8 | b;
                if (isDigit(b)) {
                    digits++;
                    value = value * 10 + b - '0';
                }
                i++;
            }
            next = i;
            int length = i - from;
            sort = BAD;
            if (digits == length && length <= 3) {
                sort = NUMBER;
            } else if (digits == 0 && length <= 7) {
                sort = WORD;
                keyword = keywordOf(letters);
            }
        }

        private static int keywordOf(long word) {
            for (int k = 0; k < KEYWORDS.length; k++) {
                if (KEYWORDS[k] == word) {
                    return k;
                }
            }
            return NONE;
        }

        private static boolean isBlank(int b) {
            return b == 32 || b == 10;
        }

        private static boolean isLetter(int b) {
            return b >= 'a' && b <= 'z';
        }

        private static boolean isDigit(int b) {
            return b >= '0' && b <= '9';
        }

        private static boolean isSign(int b) {
            return b == ';' || b == '<' || b == '=' || b == '>' || b == '(' || b == ')';
        }

        boolean isSignNow(int sign) {
            return sort == SIGN && value == sign;
        }

        boolean refuse(int kind) {
            if (wrong == 0) {
                wrong = kind;
                wrongPlace = place;
            }
            return false;
        }

        boolean takeSign(int sign) {
            if (!isSignNow(sign)) {
                return refuse(BAD_TOKEN);
            }
            step();
            return true;
        }

        /** The NUMBER here, and a step behind it; NONE if it is none or not within the bounds. */
        int takeNumber(int least, int most) {
            if (sort != NUMBER) {
                refuse(BAD_TOKEN);
                return NONE;
            }
            if (value < least || value > most) {
                refuse(BAD_NUMBER);
                return NONE;
            }
            int number = value;
            step();
            return number;
        }

        /** Whether a NAME can be here: words that the texts use for themselves are none. */
        boolean isName() {
            return sort == WORD && keyword == NONE || refuse(BAD_TOKEN);
        }

        int takeThing(House h) {
            int t = isName() ? h.findThing(letters) : NONE;
            if (t == NONE) {
                refuse(BAD_NAME);
            } else {
                step();
            }
            return t;
        }

        int takeFault(House h) {
            int f = isName() ? h.findFault(letters) : NONE;
            if (f == NONE) {
                refuse(BAD_NAME);
            } else {
                step();
            }
            return f;
        }
    }

    /** What a text tells of THINGS and FAULTS; nothing in it changes with the MINUTES. */
    private static final class House {
        final long[] thingNames = new long[MOST_THINGS];
        final int[] boots = new int[MOST_THINGS];
        final int[] waits = new int[MOST_THINGS];
        final int[] behinds = new int[MOST_THINGS];
        // All that it is behind, and all that are behind it, at once or over others, as bits.
        final int[] ahead = new int[MOST_THINGS];
        final int[] after = new int[MOST_THINGS];
        final int[] faultsOf = new int[MOST_THINGS];
        final long[] faultNames = new long[MOST_FAULTS];
        final int[] homes = new int[MOST_FAULTS];
        final int[] healTimes = new int[MOST_FAULTS];
        final int[] chances = new int[MOST_FAULTS];
        final int[] shows = new int[MOST_FAULTS];
        final int[] twelfths = new int[MOST_FAULTS * DEEDS];
        int things;
        int faults;
        int curesTold;

        void clear() {
            things = 0;
            faults = 0;
            curesTold = 0;
            for (int i = 0; i < twelfths.length; i++) {
                twelfths[i] = 0;
            }
        }

        void copyFrom(House from) {
            System.arraycopy(from.thingNames, 0, thingNames, 0, MOST_THINGS);
            System.arraycopy(from.boots, 0, boots, 0, MOST_THINGS);
            System.arraycopy(from.waits, 0, waits, 0, MOST_THINGS);
            System.arraycopy(from.behinds, 0, behinds, 0, MOST_THINGS);
            System.arraycopy(from.ahead, 0, ahead, 0, MOST_THINGS);
            System.arraycopy(from.after, 0, after, 0, MOST_THINGS);
            System.arraycopy(from.faultsOf, 0, faultsOf, 0, MOST_THINGS);
            System.arraycopy(from.faultNames, 0, faultNames, 0, MOST_FAULTS);
            System.arraycopy(from.homes, 0, homes, 0, MOST_FAULTS);
            System.arraycopy(from.healTimes, 0, healTimes, 0, MOST_FAULTS);
            System.arraycopy(from.chances, 0, chances, 0, MOST_FAULTS);
            System.arraycopy(from.shows, 0, shows, 0, MOST_FAULTS);
            System.arraycopy(from.twelfths, 0, twelfths, 0, MOST_FAULTS * DEEDS);
            things = from.things;
            faults = from.faults;
            curesTold = from.curesTold;
        }

        void addThing(long name, int boot, int wait, int behind) {
            int t = things;
            thingNames[t] = name;
            boots[t] = boot;
            waits[t] = wait;
            behinds[t] = behind;
            ahead[t] = behind == NONE ? 0 : ahead[behind] | 1 << behind;
            after[t] = 0;
            faultsOf[t] = 0;
            for (int u = 0; u < t; u++) {
                after[u] |= bit(ahead[t], u) << t;
            }
            things++;
        }

        void addFault(long name, int home, int heal, int chance, int show) {
            int f = faults;
            faultNames[f] = name;
            homes[f] = home;
            healTimes[f] = heal;
            chances[f] = chance;
            shows[f] = show;
            faultsOf[home] |= 1 << f;
            faults++;
        }

        void addCure(int f, int deed, int n) {
            twelfths[f * DEEDS + deed] = n;
            curesTold++;
        }

        int cureOf(int f, int deed) {
            return twelfths[f * DEEDS + deed];
        }

        int findThing(long name) {
            for (int t = 0; t < things; t++) {
                if (thingNames[t] == name) {
                    return t;
                }
            }
            return NONE;
        }

        int findFault(long name) {
            for (int f = 0; f < faults; f++) {
                if (faultNames[f] == name) {
                    return f;
                }
            }
            return NONE;
        }

        /** Each comes UP as soon as it can alone, but not ahead of those that it is behind. */
        int minutesTillUp(int t) {
            int till = 0;
            for (int u = 0; u <= t; u++) {
                if (u == t || bit(ahead[t], u) == 1) {
                    till = Math.max(till, waits[u] + boots[u]);
                }
            }
            return till;
        }

        /** FAULTS that, alone in a HOUSE that is well, make the LAMP of a THING show so. */
        int faultsShowing(int t, int lamp) {
            int found = 0;
            for (int f = 0; f < faults; f++) {
                int shown = homes[f] == t ? shows[f] : LAMP_WELL;
                if (shown == lamp) {
                    found |= 1 << f;
                }
            }
            return found;
        }

        /** FAULTS of one THING that show as this one does, itself too. */
        int lookingLike(int f) {
            return faultsOf[homes[f]] & faultsShowing(homes[f], shows[f]);
        }

        /** Of some FAULTS the most that may be left behind a look at the LAMP of a THING. */
        int mostLeft(int t, int set) {
            int most = Integer.bitCount(set & ~faultsOf[t]);
            for (int f = 0; f < faults; f++) {
                if (bit(set & faultsOf[t], f) == 1) {
                    most = Math.max(most, Integer.bitCount(set & lookingLike(f)));
                }
            }
            return most;
        }
    }

    /** Reads the text of a HOUSE into a draft, so that a wrong text changes nothing. */
    private static final class HouseReader {
        final Reader reader = new Reader();
        final House draft = new House();
        int lines;

        boolean readHouse(Bytes tape) {
            draft.clear();
            reader.start(tape, MOST_HOUSE_BYTES);
            lines = 0;
            // A LINE beyond the most of all sorts is refused, so the bound never cuts a text.
            int bound = MOST_THINGS + MOST_FAULTS + MOST_CURES + 1;
            while (lines < bound && reader.sort != Reader.END) {
                if (!readLine()) {
                    return false;
                }
                lines++;
            }
            return true;
        }

        private boolean readLine() {
            switch (reader.keyword) {
                case WORD_THING:
                    return readThing();
                case WORD_FAULT:
                    return readFault();
                case WORD_CURES:
                    return readCure();
                default:
                    return reader.refuse(BAD_TOKEN);
            }
        }

        private boolean readThing() {
            if (draft.things >= MOST_THINGS) {
                return reader.refuse(TOO_MANY);
            }
            reader.step();
            if (!isNewName()) {
                return false;
            }
            long name = reader.letters;
            reader.step();
            int boot = reader.takeNumber(1, 30);
            int wait = boot == NONE ? NONE : reader.takeNumber(0, 20);
            if (wait == NONE) {
                return false;
            }
            int behind = NONE;
            if (reader.keyword == WORD_BEHIND) {
                reader.step();
                behind = reader.takeThing(draft);
                if (behind == NONE) {
                    return false;
                }
            }
            if (!reader.takeSign(';')) {
                return false;
            }
            draft.addThing(name, boot, wait, behind);
            return true;
        }

        private boolean readFault() {
            if (draft.faults >= MOST_FAULTS) {
                return reader.refuse(TOO_MANY);
            }
            reader.step();
            if (!isNewName()) {
                return false;
            }
            long name = reader.letters;
            reader.step();
            int home = reader.takeThing(draft);
            int heal = home == NONE ? NONE : reader.takeNumber(0, 200);
            int chance = heal == NONE ? NONE : reader.takeNumber(1, 99);
            int show = chance == NONE ? NONE : reader.takeNumber(1, 15);
            if (show == NONE || !reader.takeSign(';')) {
                return false;
            }
            draft.addFault(name, home, heal, chance, show);
            return true;
        }

        private boolean readCure() {
            if (draft.curesTold >= MOST_CURES) {
                return reader.refuse(TOO_MANY);
            }
            reader.step();
            int f = reader.takeFault(draft);
            if (f == NONE) {
                return false;
            }
            int deed = deedHere();
            if (deed == NONE) {
                return reader.refuse(BAD_TOKEN);
            }
            if (draft.cureOf(f, deed) != 0) {
                return reader.refuse(BAD_NAME);
            }
            reader.step();
            int n = reader.takeNumber(1, TWELFTHS);
            if (n == NONE || !reader.takeSign(';')) {
                return false;
            }
            draft.addCure(f, deed, n);
            return true;
        }

        private int deedHere() {
            switch (reader.keyword) {
                case WORD_OFF:
                    return DEED_OFF;
                case WORD_CABLE:
                    return DEED_CABLE;
                case WORD_PIN:
                    return DEED_PIN;
                default:
                    return NONE;
            }
        }

        private boolean isNewName() {
            if (!reader.isName()) {
                return false;
            }
            if (draft.findThing(reader.letters) != NONE || draft.findFault(reader.letters) != NONE) {
                return reader.refuse(BAD_NAME);
            }
            return true;
        }
    }

    /** All of a HOUSE that changes with MINUTES and acts. */
    private static final class State {
        final int[] modes = new int[MOST_THINGS];
        // MINUTES that it has been OFF now, or BOOTS yet.
        final int[] clocks = new int[MOST_THINGS];
        final int[] downs = new int[MOST_THINGS];
        final int[] ages = new int[MOST_FAULTS];
        final int[] struck = new int[MOST_FAULTS];
        final int[] healed = new int[MOST_FAULTS];
        int numbered;
        int there;
        int minute;
        int deedsDone;
        int goneByDeeds;
        int goneByThemselves;
        // Where the draws go on; each act sets it anew, so it is no part of what is so.
        int seed;

        void makeNew() {
            for (int t = 0; t < MOST_THINGS; t++) {
                modes[t] = UP;
                clocks[t] = 0;
                downs[t] = 0;
            }
            for (int f = 0; f < MOST_FAULTS; f++) {
                ages[f] = 0;
                struck[f] = 0;
                healed[f] = 0;
            }
            numbered = (1 << MOST_THINGS) - 1;
            there = 0;
            minute = 0;
            deedsDone = 0;
            goneByDeeds = 0;
            goneByThemselves = 0;
        }

        void copyFrom(State from) {
            System.arraycopy(from.modes, 0, modes, 0, MOST_THINGS);
            System.arraycopy(from.clocks, 0, clocks, 0, MOST_THINGS);
            System.arraycopy(from.downs, 0, downs, 0, MOST_THINGS);
            System.arraycopy(from.ages, 0, ages, 0, MOST_FAULTS);
            System.arraycopy(from.struck, 0, struck, 0, MOST_FAULTS);
            System.arraycopy(from.healed, 0, healed, 0, MOST_FAULTS);
            numbered = from.numbered;
            there = from.there;
            minute = from.minute;
            deedsDone = from.deedsDone;
            goneByDeeds = from.goneByDeeds;
            goneByThemselves = from.goneByThemselves;
        }

        int lampOf(House h, int t, int faults) {
            if (modes[t] == OFF) {
                return LAMP_OFF;
            }
            if (modes[t] == BOOTS) {
                return LAMP_BOOTS;
            }
            int most = 0;
            for (int f = 0; f < h.faults; f++) {
                if (bit(faults & h.faultsOf[t], f) == 1) {
                    most = Math.max(most, h.shows[f]);
                }
            }
            if (most > 0) {
                return most;
            }
            return bit(numbered, t) == 1 ? LAMP_WELL : LAMP_NO_NUMBER;
        }

        /** THINGS that WORK: the one that another is behind has the lower number. */
        int working(House h) {
            int works = 0;
            for (int t = 0; t < h.things; t++) {
                boolean well = modes[t] == UP && bit(numbered, t) == 1 && (there & h.faultsOf[t]) == 0;
                if (well && (h.behinds[t] == NONE || bit(works, h.behinds[t]) == 1)) {
                    works |= 1 << t;
                }
            }
            return works;
        }

        int thingsIn(House h, int mode) {
            int found = 0;
            for (int t = 0; t < h.things; t++) {
                if (modes[t] == mode) {
                    found |= 1 << t;
                }
            }
            return found;
        }

        int switchOff(House h, int t) {
            if (modes[t] == OFF) {
                return 1;
            }
            cutOff(h, t);
            return 0;
        }

        int switchOn(House h, int t) {
            if (modes[t] != OFF) {
                return 1;
            }
            if (clocks[t] < h.waits[t]) {
                return 2;
            }
            startBoot(h, t);
            doDeed(h, t, DEED_OFF);
            return 0;
        }

        int pullCable(House h, int t) {
            if (modes[t] == OFF) {
                return 1;
            }
            doDeed(h, t, DEED_CABLE);
            return 0;
        }

        int pushPin(House h, int t) {
            if (modes[t] == OFF) {
                return 1;
            }
            cutOff(h, t);
            startBoot(h, t);
            doDeed(h, t, DEED_PIN);
            return 0;
        }

        int letStrike(int f) {
            if (bit(there, f) == 1) {
                return 1;
            }
            there |= 1 << f;
            ages[f] = 0;
            struck[f]++;
            return 0;
        }

        private void cutOff(House h, int t) {
            modes[t] = OFF;
            clocks[t] = 0;
            numbered &= ~(1 << t | h.after[t]);
        }

        private void startBoot(House h, int t) {
            modes[t] = BOOTS;
            clocks[t] = h.boots[t];
        }

        private void doDeed(House h, int t, int deed) {
            deedsDone++;
            for (int f = 0; f < h.faults; f++) {
                int n = h.cureOf(f, deed);
                if (n > 0 && bit(there & h.faultsOf[t], f) == 1 && draw(TWELFTHS) < n) {
                    takeAway(f);
                    goneByDeeds++;
                }
            }
        }

        private void takeAway(int f) {
            there &= ~(1 << f);
            ages[f] = 0;
        }

        private int draw(int n) {
            seed = seed * 1103515245 + 12345;
            return n > 0 ? (seed >>> 8) % n : 0;
        }

        /** How many of n MINUTES went by. */
        int passMinutes(House h, int n) {
            int gone = 0;
            while (gone < n && minute < LAST_MINUTE) {
                passMinute(h);
                gone++;
            }
            return gone;
        }

        private void passMinute(House h) {
            for (int t = 0; t < h.things; t++) {
                if (modes[t] == OFF) {
                    clocks[t]++;
                    downs[t]++;
                } else if (modes[t] == BOOTS) {
                    clocks[t]--;
                    if (clocks[t] == 0) {
                        comeUp(h, t);
                    }
                }
            }
            // Most MINUTES have few FAULTS or none: the row ends behind the last that is there.
            for (int f = 0; f < h.faults && there >> f != 0; f++) {
                if (bit(there, f) == 1) {
                    ages[f]++;
                    if (ages[f] == h.healTimes[f]) {
                        takeAway(f);
                        healed[f]++;
                        goneByThemselves++;
                    }
                }
            }
            minute++;
        }

        private void comeUp(House h, int t) {
            modes[t] = UP;
            int before = h.behinds[t];
            if (before == NONE || modes[before] == UP && bit(numbered, before) == 1) {
                numbered |= 1 << t;
            }
        }

        /** How many of n MINUTES were DRAWN. */
        int drawMinutes(House h, int n) {
            int gone = 0;
            while (gone < n && minute < LAST_MINUTE) {
                if (draw(30) == 0 && h.faults > 0) {
                    letStrike(draw(h.faults));
                }
                for (int t = 0; t < h.things; t++) {
                    int d = draw(20);
                    if (d == 0) {
                        switchOff(h, t);
                    } else if (d <= 3) {
                        switchOn(h, t);
                    }
                }
                passMinute(h);
                gone++;
            }
            return gone;
        }
    }

    /** The LINES of a LOG, read whole ahead of being lived. */
    private static final class LogReader {
        final Reader reader = new Reader();
        final int[] verbs = new int[MOST_LOG_LINES];
        final int[] whos = new int[MOST_LOG_LINES];
        final int[] numbers = new int[MOST_LOG_LINES];
        int lines;
        int why;

        boolean readLog(Bytes tape, House h) {
            reader.start(tape, MOST_LOG_BYTES);
            lines = 0;
            // A LINE beyond the most is refused, so the bound never cuts a text.
            while (lines <= MOST_LOG_LINES && reader.sort != Reader.END) {
                if (!readLine(h)) {
                    return false;
                }
                lines++;
            }
            return true;
        }

        private boolean readLine(House h) {
            boolean act = reader.keyword != WORD_STRIKES && reader.keyword != WORD_MINUTE;
            if (act && (!reader.isName() || h.findThing(reader.letters) == NONE)) {
                return reader.refuse(BAD_NAME);
            }
            if (lines >= MOST_LOG_LINES) {
                return reader.refuse(TOO_MANY);
            }
            boolean right = act ? readAct(h) : readEvent(h);
            return right && reader.takeSign(';');
        }

        private boolean readAct(House h) {
            int t = reader.takeThing(h);
            int verb = reader.keyword;
            if (verb != WORD_OFF && verb != WORD_ON && verb != WORD_CABLE && verb != WORD_PIN) {
                return reader.refuse(BAD_TOKEN);
            }
            reader.step();
            return keepLine(verb, t, verb == WORD_OFF ? 0 : reader.takeNumber(0, 999));
        }

        private boolean readEvent(House h) {
            int verb = reader.keyword;
            reader.step();
            if (verb == WORD_MINUTE) {
                return keepLine(verb, 0, reader.takeNumber(1, 60));
            }
            return keepLine(verb, reader.takeFault(h), 0);
        }

        private boolean keepLine(int verb, int who, int number) {
            verbs[lines] = verb;
            whos[lines] = who;
            numbers[lines] = number;
            return who != NONE && number != NONE;
        }

        /** How many LINES were lived till one was WRONG; why it was is kept. */
        int live(House h, State s) {
            why = 0;
            for (int i = 0; i < lines; i++) {
                why = liveLine(h, s, i);
                if (why != 0) {
                    return i;
                }
            }
            return lines;
        }

        private int liveLine(House h, State s, int i) {
            s.seed = numbers[i];
            switch (verbs[i]) {
                case WORD_OFF:
                    return whyOf(0, s.switchOff(h, whos[i]));
                case WORD_ON:
                    return whyOf(10, s.switchOn(h, whos[i]));
                case WORD_CABLE:
                    return whyOf(20, s.pullCable(h, whos[i]));
                case WORD_PIN:
                    return whyOf(30, s.pushPin(h, whos[i]));
                case WORD_STRIKES:
                    return whyOf(40, s.letStrike(whos[i]));
                default:
                    if (numbers[i] > LAST_MINUTE - s.minute) {
                        return 51;
                    }
                    s.passMinutes(h, numbers[i]);
                    return 0;
            }
        }

        private static int whyOf(int more, int whyNot) {
            return whyNot == 0 ? 0 : more + whyNot;
        }
    }

    /** A COND in the order in which it is worked out: what a word joins stands ahead of it. */
    private static final class Sentence {
        // 20 ONES, and 19 words that join them.
        static final int MOST_STEPS = 2 * MOST_ONES;

        final int[] words = new int[MOST_STEPS];
        final int[] signs = new int[MOST_STEPS];
        final int[] numbers = new int[MOST_STEPS];
        final int[] stack = new int[MOST_STEPS + 1];
        int steps;
        int ones;

        void clear() {
            steps = 0;
            ones = 0;
        }

        void copyFrom(Sentence from) {
            System.arraycopy(from.words, 0, words, 0, MOST_STEPS);
            System.arraycopy(from.signs, 0, signs, 0, MOST_STEPS);
            System.arraycopy(from.numbers, 0, numbers, 0, MOST_STEPS);
            steps = from.steps;
            ones = from.ones;
        }

        boolean addStep(int word, int sign, int number) {
            if (steps < MOST_STEPS) {
                words[steps] = word;
                signs[steps] = sign;
                numbers[steps] = number;
                steps++;
            }
            return true;
        }

        /** THINGS of which it may be said, as bits: all of them are worked out at once. */
        int thingsOf(House h, State s) {
            int all = (1 << h.things) - 1;
            int top = 0;
            for (int i = 0; i < steps; i++) {
                if (words[i] == WORD_NOT && top >= 1) {
                    stack[top - 1] = all & ~stack[top - 1];
                } else if (words[i] == WORD_AND && top >= 2) {
                    top--;
                    stack[top - 1] &= stack[top];
                } else if (words[i] == WORD_OR && top >= 2) {
                    top--;
                    stack[top - 1] |= stack[top];
                } else {
                    stack[top] = thingsOfStep(h, s, i);
                    top++;
                }
            }
            return top > 0 ? stack[0] : 0;
        }

        private int thingsOfStep(House h, State s, int i) {
            int number = numbers[i];
            switch (words[i]) {
                case WORD_WORKS:
                    return s.working(h);
                case WORD_UP:
                    return s.thingsIn(h, UP);
                case WORD_BOOTS:
                    return s.thingsIn(h, BOOTS);
                case WORD_HAS:
                    return bit(s.there, number) << h.homes[number];
                case WORD_BEHIND:
                    return h.after[number];
                default:
                    return thingsCompared(h, s, i);
            }
        }

        private int thingsCompared(House h, State s, int i) {
            int found = 0;
            for (int t = 0; t < h.things; t++) {
                if (holds(valueOf(h, s, i, t), signs[i], numbers[i])) {
                    found |= 1 << t;
                }
            }
            return found;
        }

        private int valueOf(House h, State s, int i, int t) {
            switch (words[i]) {
                case WORD_LAMP:
                    return s.lampOf(h, t, s.there);
                case WORD_DOWN:
                    return s.downs[t];
                default:
                    return t;
            }
        }

        private static boolean holds(int value, int sign, int number) {
            switch (sign) {
                case '<':
                    return value < number;
                case '=':
                    return value == number;
                default:
                    return value > number;
            }
        }
    }

    /** Reads the text of a SENTENCE into a draft, so that a wrong text changes nothing. */
    private static final class SentenceReader {
        final Reader reader = new Reader();
        final Sentence draft = new Sentence();

        boolean readSentence(Bytes tape, House h) {
            draft.clear();
            reader.start(tape, MOST_SENTENCE_BYTES);
            return readCond(h, 0) && (reader.sort == Reader.END || reader.refuse(BAD_TOKEN));
        }

        // The guard on how deep it goes is in readOne: within is how many ONES it is in.
        private boolean readCond(House h, int within) {
            if (!readAll(h, within)) {
                return false;
            }
            for (int k = 0; k < MOST_ONES && reader.keyword == WORD_OR; k++) {
                reader.step();
                if (!readAll(h, within)) {
                    return false;
                }
                draft.addStep(WORD_OR, 0, 0);
            }
            return true;
        }

        private boolean readAll(House h, int within) {
            if (!readOne(h, within)) {
                return false;
            }
            for (int k = 0; k < MOST_ONES && reader.keyword == WORD_AND; k++) {
                reader.step();
                if (!readOne(h, within)) {
                    return false;
                }
                draft.addStep(WORD_AND, 0, 0);
            }
            return true;
        }

        private boolean readOne(House h, int within) {
            if (!isOneHere()) {
                return reader.refuse(BAD_TOKEN);
            }
            if (draft.ones >= MOST_ONES || within >= MOST_WITHIN) {
                return reader.refuse(TOO_MANY);
            }
            draft.ones++;
            int word = reader.keyword;
            reader.step();
            switch (word) {
                case NONE:
                    return readCond(h, within + 1) && reader.takeSign(')');
                case WORD_NOT:
                    return readNot(h, within);
                case WORD_HAS:
                    return addNumbered(word, 0, reader.takeFault(h));
                case WORD_BEHIND:
                    return addNumbered(word, 0, reader.takeThing(h));
                case WORD_LAMP:
                case WORD_DOWN:
                case WORD_NUMBER:
                    return readCompared(word);
                default:
                    return draft.addStep(word, 0, 0);
            }
        }

        private boolean readNot(House h, int within) {
            return readOne(h, within + 1) && draft.addStep(WORD_NOT, 0, 0);
        }

        private boolean isOneHere() {
            switch (reader.keyword) {
                case WORD_NOT:
                case WORD_WORKS:
                case WORD_UP:
                case WORD_BOOTS:
                case WORD_HAS:
                case WORD_BEHIND:
                case WORD_LAMP:
                case WORD_DOWN:
                case WORD_NUMBER:
                    return true;
                default:
                    return reader.isSignNow('(');
            }
        }

        private boolean readCompared(int word) {
            int sign = reader.value;
            if (!reader.isSignNow('<') && !reader.isSignNow('=') && !reader.isSignNow('>')) {
                return reader.refuse(BAD_TOKEN);
            }
            reader.step();
            return addNumbered(word, sign, reader.takeNumber(0, 999));
        }

        private boolean addNumbered(int word, int sign, int number) {
            return number != NONE && draft.addStep(word, sign, number);
        }
    }

    /** Tries all rows of DEEDS for the one with the fewest MINUTES in the mean. */
    private static final class Planner {
        // Three DEEDS cut what is left to twelfths of twelfths of twelfths: so all stays whole.
        static final int PARTS = TWELFTHS * TWELFTHS * TWELFTHS;

        final int[] best = new int[DEEDS + 1];
        int bestSize;
        int fewest;
        int whole;
        private final int[] row = new int[DEEDS + 1];
        // What is left of each FAULT behind so many DEEDS.
        private final int[] weights = new int[(DEEDS + 1) * MOST_FAULTS];
        private final int[] costs = new int[DEEDS + 1];

        void makePlan(House h, int t, int set) {
            costs[DEED_OFF] = h.waits[t] + h.boots[t];
            costs[DEED_CABLE] = 2;
            costs[DEED_PIN] = 60;
            costs[CALL] = 120;
            for (int f = 0; f < MOST_FAULTS; f++) {
                weights[f] = bit(set, f) * h.chances[f] * PARTS;
            }
            whole = weightBehind(0);
            fewest = NONE;
            tryRows(h, 0, 0, 0);
        }

        // The depth is how many DEEDS are used: there are three, and each is used once.
        private void tryRows(House h, int depth, int used, int spent) {
            int weight = weightBehind(depth);
            if (weight == 0) {
                keepBetter(depth, spent);
                return;
            }
            for (int deed = 0; deed < DEEDS && depth < DEEDS; deed++) {
                if (bit(used, deed) == 0) {
                    tryDeed(h, depth, used, deed, spent + weight * costs[deed]);
                }
            }
            row[depth] = CALL;
            keepBetter(depth + 1, spent + weight * costs[CALL]);
        }

        private void tryDeed(House h, int depth, int used, int deed, int spent) {
            row[depth] = deed;
            weighDeed(h, depth, deed);
            tryRows(h, depth + 1, used | 1 << deed, spent);
        }

        private int weightBehind(int depth) {
            int sum = 0;
            for (int f = 0; f < MOST_FAULTS; f++) {
                sum += weights[depth * MOST_FAULTS + f];
            }
            return sum;
        }

        private void weighDeed(House h, int depth, int deed) {
            for (int f = 0; f < MOST_FAULTS; f++) {
                int i = depth * MOST_FAULTS + f;
                weights[i + MOST_FAULTS] = weights[i] / TWELFTHS * (TWELFTHS - h.cureOf(f, deed));
            }
        }

        // Rows are tried the first ones first: of like ones the one that is here stays.
        private void keepBetter(int size, int spent) {
            if (fewest == NONE || spent < fewest) {
                fewest = spent;
                bestSize = size;
                System.arraycopy(row, 0, best, 0, size);
            }
        }
    }

    /** States ahead of the latest acts, in a ring: one place more is for the act that is tried. */
    private static final class History {
        static final int RING = MOST_UNDONE + 1;

        final State[] states = new State[RING];
        int first;
        int size;

        History() {
            for (int i = 0; i < RING; i++) {
                states[i] = new State();
            }
        }

        void clear() {
            size = 0;
        }

        void prepare(State s) {
            states[(first + size) % RING].copyFrom(s);
        }

        void commit() {
            if (size < MOST_UNDONE) {
                size++;
            } else {
                first = (first + 1) % RING;
            }
        }

        int takeBack(State s) {
            if (size == 0) {
                return NONE;
            }
            size--;
            s.copyFrom(states[(first + size) % RING]);
            return size;
        }
    }

    /** All that an image keeps. */
    private static final class World {
        final House house = new House();
        final State state = new State();
        final Sentence sentence = new Sentence();
        boolean holds;

        void copyFrom(World from) {
            house.copyFrom(from.house);
            state.copyFrom(from.state);
            sentence.copyFrom(from.sentence);
        }
    }
}
