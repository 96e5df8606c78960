import java.util.NoSuchElementException;

/**
 * Two shores and pairs of doubles: what the one here does, the one over there answers by its
 * contrary, through weather, delay and treaties.
 *
 * <p>All rows are made once, by the constructor, and used again by every call.
 */
public final class OppositeShores {
    public static final int NONE = -1;

    private static final int DAYS = 100;
    private static final int MAX_TEXT = 700;
    private static final int MAX_DEEDS = 8;
    private static final int MAX_PAIRS = 6;
    private static final int MAX_WAY = 8;
    private static final int MAX_WEATHER = 10;
    private static final int MAX_TREATIES = 3;
    private static final int MAX_DELAY = 3;
    private static final int MAX_ACTS = 40;
    private static final int MAX_SEEN = 8;
    private static final int MAX_WORTH = 20;
    private static final int IDLE = 0;
    private static final int HERE = 0;
    private static final int THERE = 1;

    private final Tape tape;
    private final Land land;
    private final Setting now;
    private final Acts acts;
    private final Seen seen;
    private final Reader reader;
    private final Judge judge;
    private final Life life;
    private final Planner planner;
    private final Trials trials;
    private final Witness witness;
    private final Setting imageSetting;
    private final Acts imageActs;
    private final Seen imageSeen;
    private final int[] refused;
    private boolean imaged;
    private int faultPlace;

    public OppositeShores() {
        tape = new Tape();
        land = new Land();
        now = new Setting();
        acts = new Acts();
        seen = new Seen();
        reader = new Reader(tape);
        judge = new Judge(land);
        life = new Life(land, judge);
        planner = new Planner(land, judge, now);
        trials = new Trials(land, life);
        witness = new Witness(land, life);
        imageSetting = new Setting();
        imageActs = new Acts();
        imageSeen = new Seen();
        refused = new int[3];
        imaged = false;
        faultPlace = NONE;
    }

    public int feed(int a, int b, int c, int d, int e) {
        if (tape.length + 20 > MAX_TEXT) {
            return NONE;
        }
        tape.put(a);
        tape.put(b);
        tape.put(c);
        tape.put(d);
        tape.put(e);
        return tape.length;
    }

    public int shores(int n) throws IllegalArgumentException {
        if (n < 0 || n > tape.length) {
            throw new IllegalArgumentException("the tape has not so many bytes");
        }
        boolean told = reader.readsAll(n);
        tape.length = 0;
        if (!told) {
            faultPlace = reader.faultPlace;
            refused[0]++;
            return reader.faultKind;
        }
        faultPlace = NONE;
        land.copyFrom(reader.land);
        now.copyFrom(reader.setting);
        judge.forgetAll();
        acts.kept = 0;
        seen.kept = 0;
        planner.planLength = 0;
        imaged = false;
        return 0;
    }

    public int fault() {
        return faultPlace;
    }

    public int count(int what) throws NoSuchElementException {
        switch (what) {
            case 0: return land.deeds;
            case 1: return now.pairs;
            case 2: return now.weathers;
            case 3: return now.delay;
            case 4: return land.treaties;
            case 5: return now.treaty;
            case 6: return now.shirkers;
            case 7: return acts.kept;
            case 8: return seen.kept;
            case 9: return tape.length;
            case 10: return refused[0];
            case 11: return refused[1];
            case 12: return refused[2];
            default: throw new NoSuchElementException("no such what");
        }
    }

    public int deed(int deed, int what) throws NoSuchElementException {
        needDeed(deed);
        needWhat(what, 3);
        int opposite = land.opposite[deed];
        if (what == 0) {
            return land.gain[deed];
        }
        if (what == 1) {
            return land.gift[deed];
        }
        if (what == 2) {
            return opposite;
        }
        return land.opposite[opposite] == deed ? 1 : 0;
    }

    public int way(int pair, int i) throws NoSuchElementException {
        needPair(pair);
        if (i == NONE) {
            return now.lengths[pair];
        }
        if (!now.hasPlace(pair, i)) {
            throw new NoSuchElementException("no such deed of the way");
        }
        return now.ways[pair * MAX_WAY + i];
    }

    public boolean fog(int day) throws NoSuchElementException {
        needDay(day);
        return now.foggy(day);
    }

    public int does(int pair, int side, int day) throws NoSuchElementException {
        needPair(pair);
        needSide(side);
        needDay(day);
        life.live(now, pair);
        return life.rowOf(side)[day];
    }

    public int must(int pair, int day) throws NoSuchElementException {
        needPair(pair);
        needDay(day);
        life.live(now, pair);
        return life.due[day];
    }

    public int store(int side, int day) throws NoSuchElementException {
        needSide(side);
        needDay(day);
        return life.stored(now, side, day + 1);
    }

    public int change(int pair, int i, int deed) throws NoSuchElementException {
        needPair(pair);
        needDeed(deed);
        if (!now.hasPlace(pair, i)) {
            refused[1]++;
            return NONE;
        }
        int place = pair * MAX_WAY + i;
        int was = now.ways[place];
        acts.keep(Acts.WAY, place, was);
        now.ways[place] = deed;
        return was;
    }

    public int turn(int i) {
        if (i < 0 || i >= now.weathers) {
            refused[1]++;
            return NONE;
        }
        acts.keep(Acts.WEATHER, i, now.weather[i]);
        now.weather[i] = 1 - now.weather[i];
        return now.weather[i];
    }

    public int delay(int days) {
        if (days < 0 || days > MAX_DELAY) {
            refused[1]++;
            return NONE;
        }
        int was = now.delay;
        acts.keep(Acts.DELAY, 0, was);
        now.delay = days;
        return was;
    }

    public boolean sign(int treaty) {
        if (!isTreatyOrNone(treaty)) {
            refused[1]++;
            return false;
        }
        acts.keep(Acts.TREATY, 0, now.treaty);
        now.treaty = treaty;
        return true;
    }

    public boolean shirk(int pair, boolean shirks) throws NoSuchElementException {
        needPair(pair);
        if (now.shirks(pair) == shirks) {
            refused[1]++;
            return false;
        }
        acts.keep(Acts.SHIRKERS, 0, now.shirkers);
        now.shirkers ^= 1 << pair;
        return true;
    }

    public int undo() {
        if (acts.kept == 0) {
            return NONE;
        }
        acts.takeBack(now);
        return acts.kept;
    }

    public int gained(int pair, int side, int days)
            throws NoSuchElementException, IllegalArgumentException {
        needPair(pair);
        needSide(side);
        needDays(days);
        life.live(now, pair);
        return life.sumOf(land.gain, side, days);
    }

    public int fines(int pair, int days) throws NoSuchElementException, IllegalArgumentException {
        needPair(pair);
        needDays(days);
        life.live(now, pair);
        return life.fined(days);
    }

    public int unanswered(int pair) throws NoSuchElementException {
        needPair(pair);
        life.live(now, pair);
        return life.firstUnanswered(now.delay);
    }

    public int even() {
        return life.firstEven(now);
    }

    public int poorest(int side) throws NoSuchElementException {
        needSide(side);
        return life.poorestDay(now, side);
    }

    public int plan(int pair, int gifts) throws NoSuchElementException, IllegalArgumentException {
        needPair(pair);
        if (gifts < -100 || gifts > 100) {
            throw new IllegalArgumentException("not -100 to 100 gifts");
        }
        return planner.shortest(pair, gifts);
    }

    public int planned(int i) throws NoSuchElementException {
        if (i < 0 || i >= planner.planLength) {
            throw new NoSuchElementException("no such deed of the row that is kept");
        }
        return planner.row[i];
    }

    public int well(int pair, int days) throws NoSuchElementException, IllegalArgumentException {
        needPair(pair);
        if (days < 1 || days > 6) {
            throw new IllegalArgumentException("not 1 to 6 days");
        }
        return planner.most(pair, days);
    }

    public int exchange(int days, int i) throws NoSuchElementException, IllegalArgumentException {
        if (i != NONE) {
            needPair(i);
        }
        needDays(days);
        trials.findExchange(now, days);
        return i == NONE ? trials.exchangeGain : trials.exchangeRow[i];
    }

    public int see(int pair, int day, int deed) throws NoSuchElementException {
        needPair(pair);
        needDay(day);
        needDeed(deed);
        if (seen.kept >= MAX_SEEN) {
            refused[2]++;
            return NONE;
        }
        seen.keep(pair, day, deed);
        return seen.kept;
    }

    public void forget() {
        seen.kept = 0;
    }

    public int falsely() {
        return witness.countFalse(now, seen);
    }

    public int did(int pair, int day) throws NoSuchElementException {
        needPair(pair);
        needDay(day);
        return witness.possibleDeeds(now, seen, pair, day);
    }

    public int morning(int pair, int day, int what) throws NoSuchElementException {
        needPair(pair);
        needDay(day);
        needWhat(what, 1);
        int deeds = witness.possibleDeeds(now, seen, pair, day);
        witness.findMorning(now, pair, day, deeds);
        return what == 0 ? witness.tellingDay : witness.unlikeDeeds;
    }

    public int found() {
        return witness.possibleShirkers(now, seen);
    }

    public int compared(int treaty) throws NoSuchElementException {
        if (!isTreatyOrNone(treaty)) {
            throw new NoSuchElementException("no such treaty");
        }
        return trials.gainByTreaty(now, treaty);
    }

    public int best() {
        return trials.bestTreaty(now);
    }

    public int delayed() {
        return trials.bestDelay(now);
    }

    public int harms() {
        return trials.harmfulWeather(now);
    }

    public int game(int pair, int other, int day, int deeds, int what)
            throws NoSuchElementException, IllegalArgumentException {
        needPair(pair);
        needPair(other);
        needDay(day);
        if (deeds < 0) {
            throw new NoSuchElementException("no such deeds");
        }
        needDeed(deeds / 10);
        needDeed(deeds % 10);
        needWhat(what, 1);
        if (pair == other) {
            throw new IllegalArgumentException("both pairs are one");
        }
        trials.setGame(now, pair, other, day, deeds);
        return what == 0 ? trials.countResting() : trials.firstResting();
    }

    public int years(int seed, int n, int what)
            throws NoSuchElementException, IllegalArgumentException {
        needWhat(what, 2);
        needDays(n);
        return trials.yearsBySeed(now, seed, n, what);
    }

    public int ring(int deed) throws NoSuchElementException {
        needDeed(deed);
        return land.ringLength(deed);
    }

    public int idle(int pair, int side) throws NoSuchElementException {
        needPair(pair);
        needSide(side);
        life.live(now, pair);
        return life.idleDays(side);
    }

    public int waves(int day) throws NoSuchElementException {
        needDay(day);
        return life.wavingPairs(now, day);
    }

    public int ruined() {
        return trials.poorestPair(now);
    }

    public int stop(int pair) throws NoSuchElementException {
        needPair(pair);
        return trials.deedToStop(now, pair);
    }

    public int swap(int pair) throws NoSuchElementException {
        needPair(pair);
        return trials.placesToSwap(now, pair);
    }

    public int year(int pair) throws NoSuchElementException {
        needPair(pair);
        life.live(now, pair);
        return life.period();
    }

    public int spell(int what) throws NoSuchElementException {
        needWhat(what, 1);
        return now.longestSpell(what == 1);
    }

    public int helps(int deed) throws NoSuchElementException {
        needDeed(deed);
        return trials.helpedPairs(now, deed);
    }

    public void image() {
        imageSetting.copyFrom(now);
        imageActs.copyFrom(acts);
        imageSeen.copyFrom(seen);
        imaged = true;
    }

    public boolean restore() {
        if (!imaged) {
            return false;
        }
        now.copyFrom(imageSetting);
        acts.copyFrom(imageActs);
        seen.copyFrom(imageSeen);
        return true;
    }

    private boolean isTreatyOrNone(int treaty) {
        return treaty >= NONE && treaty < land.treaties;
    }

    private void needDeed(int deed) {
        if (deed < 0 || deed >= land.deeds) {
            throw new NoSuchElementException("no such deed");
        }
    }

    private void needPair(int pair) {
        if (pair < 0 || pair >= now.pairs) {
            throw new NoSuchElementException("no such pair");
        }
    }

    private void needDay(int day) {
        if (day < 0 || day >= DAYS) {
            throw new NoSuchElementException("no such day");
        }
    }

    private void needSide(int side) {
        if (side != HERE && side != THERE) {
            throw new NoSuchElementException("no such side");
        }
    }

    private void needWhat(int what, int most) {
        if (what < 0 || what > most) {
            throw new NoSuchElementException("no such what");
        }
    }

    private void needDays(int days) {
        if (days < 0 || days > DAYS) {
            throw new IllegalArgumentException("not 0 to 100 days");
        }
    }

    /** The bytes that were fed and not yet read, and the tokens that the first of them make. */
    private static final class Tape {
        /** Kinds of tokens; a sign's kind is its own character, which lies above these. */
        static final int END = 0;
        static final int NO_TOKEN = 1;
        static final int WORD = 2;
        static final int NUMBER = 3;
        static final int LONG_NUMBER = 4;
        private static final String SIGNS = ";()+-*/<=";

        int length;
        private final byte[] bytes;
        final int[] kinds;
        final int[] starts;
        /** Of a number its value, of a word how many letters it has. */
        final int[] values;
        private int tokens;

        Tape() {
            length = 0;
            bytes = new byte[MAX_TEXT];
            kinds = new int[MAX_TEXT + 1];
            starts = new int[MAX_TEXT + 1];
            values = new int[MAX_TEXT + 1];
            tokens = 0;
        }

        void put(int number) {
            for (int shift = 24; shift >= 0; shift -= 8) {
                if (length < bytes.length) {
                    bytes[length] = (byte) (number >> shift);
                    length++;
                }
            }
        }

        int byteAt(int place) {
            return place >= 0 && place < bytes.length ? bytes[place] & 255 : 0;
        }

        void split(int size) {
            tokens = 0;
            for (int place = 0; place < size; place++) {
                int sign = byteAt(place);
                if (isLetter(sign)) {
                    addWord(place, size);
                } else if (isDigit(sign)) {
                    addNumber(place, size);
                } else if (sign != ' ' && sign != 10) {
                    add(SIGNS.indexOf((char) sign) >= 0 ? sign : NO_TOKEN, place, 0);
                }
            }
            add(END, size, 0);
        }

        /** Only the first letter of a row begins a word: the others belong to it. */
        private void addWord(int place, int size) {
            if (!isLetter(byteAt(place - 1))) {
                add(WORD, place, endOfWord(place, size) - place);
            }
        }

        private void addNumber(int place, int size) {
            if (!isDigit(byteAt(place - 1))) {
                int end = endOfNumber(place, size);
                add(end - place > 4 ? LONG_NUMBER : NUMBER, place, numberFrom(place, end));
            }
        }

        private void add(int kind, int start, int value) {
            if (tokens < kinds.length) {
                kinds[tokens] = kind;
                starts[tokens] = start;
                values[tokens] = value;
                tokens++;
            }
        }

        private int endOfWord(int start, int size) {
            int end = start + 1;
            while (end < size && isLetter(byteAt(end))) {
                end++;
            }
            return end;
        }

        private int endOfNumber(int start, int size) {
            int end = start + 1;
            while (end < size && isDigit(byteAt(end))) {
                end++;
            }
            return end;
        }

        /** The first four digits alone: a longer number is refused, whatever it is. */
        private int numberFrom(int start, int end) {
            int value = 0;
            for (int i = start; i < end && i < start + 4; i++) {
                value = value * 10 + byteAt(i) - '0';
            }
            return value;
        }

        private static boolean isLetter(int sign) {
            return sign >= 'a' && sign <= 'z';
        }

        private static boolean isDigit(int sign) {
            return sign >= '0' && sign <= '9';
        }
    }

    /** What a text tells once and for all: the deeds, and the treaties as postfix rows. */
    private static final class Land {
        static final int VALUE_DEED = 10000;
        static final int VALUE_GAIN = 10001;
        static final int VALUE_GIFT = 10002;
        static final int VALUE_DAY = 10003;
        static final int VALUE_PAIR = 10004;
        static final int VALUE_AGAIN = 10005;
        /** The first code that takes values from the stack; below stand what puts one there. */
        static final int FIRST_SIGN = 20000;
        static final int NOT = 20000;
        static final int AND = 20001;
        static final int OR = 20002;
        static final int LESS = 20003;
        static final int EQUAL = 20004;
        static final int PLUS = 20005;
        static final int MINUS = 20006;
        static final int TIMES = 20007;
        static final int OVER = 20008;

        int deeds;
        final int[] gain;
        final int[] gift;
        final int[] opposite;
        int treaties;
        final int[] code;
        final int[] ends;
        int codeLength;

        Land() {
            deeds = 0;
            gain = new int[MAX_DEEDS];
            gift = new int[MAX_DEEDS];
            opposite = new int[MAX_DEEDS];
            treaties = 0;
            code = new int[MAX_TEXT];
            ends = new int[MAX_TREATIES];
            codeLength = 0;
        }

        void clearAll() {
            deeds = 0;
            treaties = 0;
            codeLength = 0;
        }

        void copyFrom(Land other) {
            deeds = other.deeds;
            treaties = other.treaties;
            codeLength = other.codeLength;
            System.arraycopy(other.gain, 0, gain, 0, MAX_DEEDS);
            System.arraycopy(other.gift, 0, gift, 0, MAX_DEEDS);
            System.arraycopy(other.opposite, 0, opposite, 0, MAX_DEEDS);
            System.arraycopy(other.code, 0, code, 0, MAX_TEXT);
            System.arraycopy(other.ends, 0, ends, 0, MAX_TREATIES);
        }

        void addDeed(int itsGain, int itsGift) {
            if (deeds < MAX_DEEDS) {
                gain[deeds] = itsGain;
                gift[deeds] = itsGift;
                opposite[deeds] = deeds;
                deeds++;
            }
        }

        void emit(int sign) {
            if (codeLength < code.length) {
                code[codeLength] = sign;
                codeLength++;
            }
        }

        void endTreaty() {
            if (treaties < MAX_TREATIES) {
                ends[treaties] = codeLength;
                treaties++;
            }
        }

        int startOf(int treaty) {
            return treaty > 0 && treaty <= MAX_TREATIES ? ends[treaty - 1] : 0;
        }

        int ringLength(int deed) {
            int met = 0;
            int at = deed;
            for (int i = 0; i < MAX_DEEDS; i++) {
                met |= 1 << at;
                at = opposite[at];
            }
            return Integer.bitCount(met);
        }
    }

    /** What acts change: ways, weather, delay, the treaty in force, shirkers. */
    private static final class Setting {
        int pairs;
        final int[] ways;
        final int[] lengths;
        /** As long as all days, since years by a seed have a number for each day. */
        final int[] weather;
        int weathers;
        int delay;
        int treaty;
        int shirkers;

        Setting() {
            ways = new int[MAX_PAIRS * MAX_WAY];
            lengths = new int[MAX_PAIRS];
            weather = new int[DAYS];
            pairs = 0;
            weathers = 0;
            delay = 1;
            treaty = NONE;
            shirkers = 0;
        }

        void clearAll() {
            pairs = 0;
            weathers = 0;
            delay = 1;
            treaty = NONE;
            shirkers = 0;
        }

        void copyFrom(Setting other) {
            pairs = other.pairs;
            weathers = other.weathers;
            delay = other.delay;
            treaty = other.treaty;
            shirkers = other.shirkers;
            System.arraycopy(other.ways, 0, ways, 0, ways.length);
            System.arraycopy(other.lengths, 0, lengths, 0, lengths.length);
            System.arraycopy(other.weather, 0, weather, 0, weather.length);
        }

        boolean hasPlace(int pair, int i) {
            return i >= 0 && i < lengths[pair];
        }

        int deedHere(int pair, int day) {
            int length = lengths[pair];
            return length > 0 ? ways[pair * MAX_WAY + day % length] : IDLE;
        }

        boolean foggy(int day) {
            return weathers > 0 && weather[day % weathers] == 1;
        }

        boolean shirks(int pair) {
            return (shirkers >> pair & 1) == 1;
        }

        /** A way of one deed alone. */
        void doOnly(int pair, int deed) {
            ways[pair * MAX_WAY] = deed;
            lengths[pair] = 1;
        }

        void takeWay(int pair, Setting other, int owner) {
            System.arraycopy(other.ways, owner * MAX_WAY, ways, pair * MAX_WAY, MAX_WAY);
            lengths[pair] = other.lengths[owner];
        }

        /** How many days the longest row of fog has, or the first day of the first such row. */
        int longestSpell(boolean firstDay) {
            int most = 0;
            int first = NONE;
            int run = 0;
            for (int day = 0; day < DAYS; day++) {
                run = foggy(day) ? run + 1 : 0;
                if (run > most) {
                    most = run;
                    first = day - run + 1;
                }
            }
            return firstDay ? first : most;
        }
    }

    /** The latest acts, as what was there ahead of each. */
    private static final class Acts {
        static final int WAY = 0;
        static final int WEATHER = 1;
        static final int DELAY = 2;
        static final int TREATY = 3;
        static final int SHIRKERS = 4;

        private final int[] kinds;
        private final int[] places;
        private final int[] olds;
        private int next;
        int kept;

        Acts() {
            kinds = new int[MAX_ACTS];
            places = new int[MAX_ACTS];
            olds = new int[MAX_ACTS];
            next = 0;
            kept = 0;
        }

        void copyFrom(Acts other) {
            System.arraycopy(other.kinds, 0, kinds, 0, MAX_ACTS);
            System.arraycopy(other.places, 0, places, 0, MAX_ACTS);
            System.arraycopy(other.olds, 0, olds, 0, MAX_ACTS);
            next = other.next;
            kept = other.kept;
        }

        void keep(int kind, int place, int old) {
            kinds[next] = kind;
            places[next] = place;
            olds[next] = old;
            next = next + 1 < MAX_ACTS ? next + 1 : 0;
            kept = Math.min(kept + 1, MAX_ACTS);
        }

        void takeBack(Setting setting) {
            next = next > 0 ? next - 1 : MAX_ACTS - 1;
            kept--;
            int place = places[next];
            int old = olds[next];
            switch (kinds[next]) {
                case WAY: setting.ways[place] = old; break;
                case WEATHER: setting.weather[place] = old; break;
                case DELAY: setting.delay = old; break;
                case TREATY: setting.treaty = old; break;
                default: setting.shirkers = old; break;
            }
        }
    }

    /** What was seen: that one there did a deed on a day. */
    private static final class Seen {
        final int[] pairs;
        final int[] days;
        final int[] deeds;
        int kept;

        Seen() {
            pairs = new int[MAX_SEEN];
            days = new int[MAX_SEEN];
            deeds = new int[MAX_SEEN];
            kept = 0;
        }

        void copyFrom(Seen other) {
            System.arraycopy(other.pairs, 0, pairs, 0, MAX_SEEN);
            System.arraycopy(other.days, 0, days, 0, MAX_SEEN);
            System.arraycopy(other.deeds, 0, deeds, 0, MAX_SEEN);
            kept = other.kept;
        }

        void keep(int pair, int day, int deed) {
            if (kept < MAX_SEEN) {
                pairs[kept] = pair;
                days[kept] = day;
                deeds[kept] = deed;
                kept++;
            }
        }

        /** How many things seen of a pair aren't so by a row of what the one there does. */
        int falseOf(int pair, int[] there) {
            int wrong = 0;
            for (int i = 0; i < kept; i++) {
                if (pairs[i] == pair && there[days[i]] != deeds[i]) {
                    wrong++;
                }
            }
            return wrong;
        }
    }

    /**
     * Reads a text into a land and a setting of its own, so that a fault leaves all else alone.
     * Each reading method answers whether it went well; if not, the fault is noted.
     */
    private static final class Reader {
        private static final int MAX_WITHIN = 6;
        private static final int MAX_NOTS = 6;

        final Land land;
        final Setting setting;
        int faultKind;
        int faultPlace;
        private final Tape tape;
        private int token;
        private int kind;
        private int start;
        private int value;
        private int number;
        private int opposed;
        private boolean weatherTold;
        private boolean delayTold;

        Reader(Tape source) {
            tape = source;
            land = new Land();
            setting = new Setting();
            faultKind = 0;
            faultPlace = NONE;
            token = 0;
            kind = Tape.END;
            start = 0;
            value = 0;
            number = 0;
            opposed = 0;
            weatherTold = false;
            delayTold = false;
        }

        boolean readsAll(int size) {
            opposed = 0;
            weatherTold = false;
            delayTold = false;
            land.clearAll();
            setting.clearAll();
            tape.split(size);
            token = 0;
            look();
            for (int lines = 0; lines <= MAX_TEXT && kind != Tape.END; lines++) {
                if (!readsLine()) {
                    return false;
                }
            }
            setting.treaty = land.treaties > 0 ? 0 : NONE;
            return true;
        }

        private boolean wrong(int itsKind) {
            faultKind = itsKind;
            faultPlace = start;
            return false;
        }

        private void step() {
            // Behind the end stands nothing more.
            if (kind != Tape.END) {
                token++;
            }
            look();
        }

        private void look() {
            if (token < tape.kinds.length) {
                kind = tape.kinds[token];
                start = tape.starts[token];
                value = tape.values[token];
            }
        }

        private boolean isWord(String word) {
            if (kind != Tape.WORD || value != word.length()) {
                return false;
            }
            for (int i = 0; i < word.length(); i++) {
                if (tape.byteAt(start + i) != word.charAt(i)) {
                    return false;
                }
            }
            return true;
        }

        private boolean isAnyNumber() {
            return kind == Tape.NUMBER || kind == Tape.LONG_NUMBER;
        }

        private boolean readsLine() {
            if (isWord("deed")) {
                return readsDeed() && readsSign(';');
            }
            if (isWord("opposite")) {
                return readsOpposite() && readsSign(';');
            }
            if (isWord("pair")) {
                return readsPair() && readsSign(';');
            }
            if (isWord("weather")) {
                return readsWeather() && readsSign(';');
            }
            if (isWord("delay")) {
                return readsDelay() && readsSign(';');
            }
            if (isWord("treaty")) {
                return readsTreaty() && readsSign(';');
            }
            return wrong(1);
        }

        private boolean readsSign(int sign) {
            if (kind != sign) {
                return wrong(1);
            }
            step();
            return true;
        }

        private boolean readsNumber(int most) {
            if (!isAnyNumber()) {
                return wrong(1);
            }
            if (kind == Tape.LONG_NUMBER || value > most) {
                return wrong(2);
            }
            number = value;
            step();
            return true;
        }

        private boolean readsWorth() {
            boolean below = kind == '-';
            if (below) {
                step();
            }
            if (!readsNumber(MAX_WORTH)) {
                return false;
            }
            number = below ? -number : number;
            return true;
        }

        /** Whether a deed told ahead stands here; it is not stepped over. */
        private boolean standsDeed() {
            if (!isAnyNumber()) {
                return wrong(1);
            }
            if (kind == Tape.LONG_NUMBER) {
                return wrong(2);
            }
            return value < land.deeds || wrong(3);
        }

        private boolean readsDeed() {
            if (land.deeds >= MAX_DEEDS) {
                return wrong(2);
            }
            step();
            if (!readsWorth()) {
                return false;
            }
            int gain = number;
            if (!readsWorth()) {
                return false;
            }
            land.addDeed(gain, number);
            return true;
        }

        private boolean readsOpposite() {
            step();
            if (!standsDeed()) {
                return false;
            }
            int deed = value;
            if ((opposed >> deed & 1) == 1) {
                return wrong(4);
            }
            step();
            if (!standsDeed()) {
                return false;
            }
            opposed |= 1 << deed;
            land.opposite[deed] = value;
            step();
            return true;
        }

        private boolean readsPair() {
            if (setting.pairs >= MAX_PAIRS) {
                return wrong(2);
            }
            int pair = setting.pairs;
            step();
            int deeds = 0;
            for (int i = 0; i <= MAX_WAY && (i == 0 || isAnyNumber()); i++) {
                if (i == MAX_WAY) {
                    return wrong(2);
                }
                if (!standsDeed()) {
                    return false;
                }
                setting.ways[pair * MAX_WAY + i] = value;
                deeds++;
                step();
            }
            setting.lengths[pair] = deeds;
            setting.pairs++;
            return true;
        }

        private boolean readsWeather() {
            if (weatherTold) {
                return wrong(5);
            }
            weatherTold = true;
            step();
            for (int i = 0; i <= MAX_WEATHER && (i == 0 || isAnyNumber()); i++) {
                if (i == MAX_WEATHER) {
                    return wrong(2);
                }
                if (!readsNumber(1)) {
                    return false;
                }
                setting.weather[i] = number;
                setting.weathers++;
            }
            return true;
        }

        private boolean readsDelay() {
            if (delayTold) {
                return wrong(5);
            }
            delayTold = true;
            step();
            if (!readsNumber(MAX_DELAY)) {
                return false;
            }
            setting.delay = number;
            return true;
        }

        private boolean readsTreaty() {
            if (land.treaties >= MAX_TREATIES) {
                return wrong(2);
            }
            step();
            if (!readsExpr(0)) {
                return false;
            }
            land.endTreaty();
            return true;
        }

        private boolean readsExpr(int within) {
            if (within >= MAX_WITHIN && (isAnyNumber() || kind == Tape.WORD || kind == '(')) {
                return wrong(2);
            }
            if (!readsAnd(within)) {
                return false;
            }
            for (int i = 0; i <= MAX_TEXT && isWord("or"); i++) {
                step();
                if (!readsAnd(within)) {
                    return false;
                }
                land.emit(Land.OR);
            }
            return true;
        }

        private boolean readsAnd(int within) {
            if (!readsNot(within, 0)) {
                return false;
            }
            for (int i = 0; i <= MAX_TEXT && isWord("and"); i++) {
                step();
                if (!readsNot(within, 0)) {
                    return false;
                }
                land.emit(Land.AND);
            }
            return true;
        }

        private boolean readsNot(int within, int nots) {
            if (isWord("not")) {
                if (nots >= MAX_NOTS) {
                    return wrong(2);
                }
                step();
                if (!readsNot(within, nots + 1)) {
                    return false;
                }
                land.emit(Land.NOT);
                return true;
            }
            return readsTest(within);
        }

        private boolean readsTest(int within) {
            if (!readsSum(within)) {
                return false;
            }
            if (kind != '<' && kind != '=') {
                return true;
            }
            int sign = kind == '<' ? Land.LESS : Land.EQUAL;
            step();
            if (!readsSum(within)) {
                return false;
            }
            land.emit(sign);
            return true;
        }

        private boolean readsSum(int within) {
            if (!readsProduct(within)) {
                return false;
            }
            for (int i = 0; i <= MAX_TEXT && (kind == '+' || kind == '-'); i++) {
                int sign = kind == '+' ? Land.PLUS : Land.MINUS;
                step();
                if (!readsProduct(within)) {
                    return false;
                }
                land.emit(sign);
            }
            return true;
        }

        private boolean readsProduct(int within) {
            if (!readsPart(within)) {
                return false;
            }
            for (int i = 0; i <= MAX_TEXT && (kind == '*' || kind == '/'); i++) {
                int sign = kind == '*' ? Land.TIMES : Land.OVER;
                step();
                if (!readsPart(within)) {
                    return false;
                }
                land.emit(sign);
            }
            return true;
        }

        private boolean readsPart(int within) {
            if (kind == '(') {
                step();
                return readsExpr(within + 1) && readsSign(')');
            }
            if (kind == Tape.WORD) {
                int code = valueCode();
                if (code == NONE) {
                    return wrong(3);
                }
                land.emit(code);
                step();
                return true;
            }
            if (!readsNumber(9999)) {
                return false;
            }
            land.emit(number);
            return true;
        }

        private int valueCode() {
            if (isWord("deed")) {
                return Land.VALUE_DEED;
            }
            if (isWord("gain")) {
                return Land.VALUE_GAIN;
            }
            if (isWord("gift")) {
                return Land.VALUE_GIFT;
            }
            if (isWord("day")) {
                return Land.VALUE_DAY;
            }
            if (isWord("pair")) {
                return Land.VALUE_PAIR;
            }
            return isWord("again") ? Land.VALUE_AGAIN : NONE;
        }
    }

    /** Says what a deed here demands there, and remembers what the treaties said. */
    private static final class Judge {
        private static final int MAX_STACK = 64;
        private static final int ROWS = MAX_TREATIES * MAX_PAIRS * MAX_DEEDS * 2;

        private final Land land;
        private final int[] stack;
        /** Two longs of days for each treaty, pair, deed, again. */
        private final long[] known;
        private final long[] demanded;
        private int pair;
        private int deed;
        private int day;
        private boolean again;

        Judge(Land itsLand) {
            land = itsLand;
            stack = new int[MAX_STACK];
            known = new long[ROWS * 2];
            demanded = new long[ROWS * 2];
            pair = 0;
            deed = 0;
            day = 0;
            again = false;
        }

        void forgetAll() {
            for (int i = 0; i < known.length; i++) {
                known[i] = 0L;
                demanded[i] = 0L;
            }
        }

        /** What the one there must do for a deed here, who did last what is told; or none. */
        int due(Setting setting, int itsPair, int itsDeed, int itsDay, boolean isAgain, int last) {
            if (setting.foggy(itsDay)) {
                return last;
            }
            int treaty = setting.treaty;
            if (treaty < 0 || treaty >= land.treaties) {
                return land.opposite[itsDeed];
            }
            int row = (treaty * MAX_PAIRS + itsPair) * MAX_DEEDS + itsDeed;
            int place = (row * 2 + (isAgain ? 1 : 0)) * 2 + (itsDay >> 6);
            if (place < 0 || place >= known.length) {
                return NONE;
            }
            long bit = 1L << (itsDay & 63);
            if ((known[place] & bit) == 0L) {
                pair = itsPair;
                deed = itsDeed;
                day = itsDay;
                again = isAgain;
                known[place] |= bit;
                demanded[place] |= reckoned(treaty) > 0 ? bit : 0L;
            }
            return (demanded[place] & bit) != 0L ? land.opposite[itsDeed] : NONE;
        }

        private int reckoned(int treaty) {
            int top = 0;
            int end = Math.min(land.ends[treaty], land.code.length);
            for (int i = land.startOf(treaty); i < end; i++) {
                int code = land.code[i];
                if (code < Land.FIRST_SIGN) {
                    if (top < MAX_STACK) {
                        stack[top] = operand(code);
                        top++;
                    }
                } else if (code == Land.NOT) {
                    if (top > 0) {
                        stack[top - 1] = stack[top - 1] == 0 ? 1 : 0;
                    }
                } else if (top > 1) {
                    top--;
                    stack[top - 1] = joined(code, stack[top - 1], stack[top]);
                }
            }
            return top > 0 ? stack[0] : 0;
        }

        private int operand(int code) {
            switch (code) {
                case Land.VALUE_DEED: return deed;
                case Land.VALUE_GAIN: return land.gain[deed];
                case Land.VALUE_GIFT: return land.gift[deed];
                case Land.VALUE_DAY: return day;
                case Land.VALUE_PAIR: return pair;
                case Land.VALUE_AGAIN: return again ? 1 : 0;
                default: return code;
            }
        }

        private static int joined(int code, int left, int right) {
            switch (code) {
                case Land.AND: return left != 0 && right != 0 ? 1 : 0;
                case Land.OR: return left != 0 || right != 0 ? 1 : 0;
                case Land.LESS: return left < right ? 1 : 0;
                case Land.EQUAL: return left == right ? 1 : 0;
                case Land.PLUS: return left + right;
                case Land.MINUS: return left - right;
                case Land.TIMES: return left * right;
                default: return right == 0 ? 0 : left / right;
            }
        }
    }

    /** The days of one pair by a setting: what both do, what the one there must do. */
    private static final class Life {
        final int[] here;
        final int[] there;
        final int[] due;
        private final int[] hereStore;
        private final int[] thereStore;
        private final Land land;
        private final Judge judge;

        Life(Land itsLand, Judge itsJudge) {
            land = itsLand;
            judge = itsJudge;
            here = new int[DAYS];
            there = new int[DAYS];
            due = new int[DAYS];
            hereStore = new int[DAYS];
            thereStore = new int[DAYS];
        }

        int[] rowOf(int side) {
            return side == HERE ? here : there;
        }

        void live(Setting setting, int pair) {
            follow(setting, pair);
            respond(setting, pair);
        }

        /** As it would be, had the one here done another deed on one day. */
        void liveBut(Setting setting, int pair, int day, int deed) {
            follow(setting, pair);
            here[day] = deed;
            respond(setting, pair);
        }

        private void follow(Setting setting, int pair) {
            for (int day = 0; day < DAYS; day++) {
                here[day] = setting.deedHere(pair, day);
            }
        }

        private void respond(Setting setting, int pair) {
            boolean shirks = setting.shirks(pair);
            int last = IDLE;
            for (int day = 0; day < DAYS; day++) {
                int source = day - setting.delay;
                due[day] = NONE;
                if (source >= 0) {
                    int deed = here[source];
                    boolean again = source > 0 && here[source - 1] == deed;
                    due[day] = judge.due(setting, pair, deed, source, again, last);
                }
                last = shirks || due[day] == NONE ? IDLE : due[day];
                there[day] = last;
            }
        }

        /** The sum of gains, or gifts, of one side's deeds. */
        int sumOf(int[] worth, int side, int days) {
            int[] row = rowOf(side);
            int sum = 0;
            for (int day = 0; day < days && day < DAYS; day++) {
                sum += worth[row[day]];
            }
            return sum;
        }

        int gainThere(Setting setting, int pair, int days) {
            live(setting, pair);
            return sumOf(land.gain, THERE, days);
        }

        int gainOfAllThere(Setting setting) {
            int sum = 0;
            for (int pair = 0; pair < setting.pairs; pair++) {
                live(setting, pair);
                sum += sumOf(land.gain, THERE, DAYS);
            }
            return sum;
        }

        int fined(int days) {
            int fines = 0;
            for (int day = 0; day < days && day < DAYS; day++) {
                if (due[day] != NONE && due[day] != there[day]) {
                    fines++;
                }
            }
            return fines;
        }

        int firstUnanswered(int delay) {
            for (int day = 0; day + delay < DAYS; day++) {
                if (there[day + delay] != land.opposite[here[day]]) {
                    return day;
                }
            }
            return NONE;
        }

        int idleDays(int side) {
            int[] row = rowOf(side);
            int idleOnes = 0;
            for (int day = 0; day < DAYS; day++) {
                if (row[day] == IDLE) {
                    idleOnes++;
                }
            }
            return idleOnes;
        }

        int period() {
            for (int length = 1; length <= 50; length++) {
                if (repeatsAfter(length)) {
                    return length;
                }
            }
            return NONE;
        }

        private boolean repeatsAfter(int length) {
            for (int day = 50; day < DAYS; day++) {
                if (there[day] != there[day - length]) {
                    return false;
                }
            }
            return true;
        }

        int wavingPairs(Setting setting, int day) {
            int bits = 0;
            for (int pair = 0; pair < setting.pairs; pair++) {
                live(setting, pair);
                if (here[day] == there[day]) {
                    bits |= 1 << pair;
                }
            }
            return bits;
        }

        int stored(Setting setting, int side, int days) {
            int sum = 0;
            for (int pair = 0; pair < setting.pairs; pair++) {
                live(setting, pair);
                sum += sumOf(land.gift, side, days);
            }
            return sum;
        }

        private void fillStores(Setting setting) {
            for (int day = 0; day < DAYS; day++) {
                hereStore[day] = 0;
                thereStore[day] = 0;
            }
            for (int pair = 0; pair < setting.pairs; pair++) {
                live(setting, pair);
                addGifts(here, hereStore);
                addGifts(there, thereStore);
            }
        }

        private void addGifts(int[] deeds, int[] stores) {
            int sum = 0;
            for (int day = 0; day < DAYS; day++) {
                sum += land.gift[deeds[day]];
                stores[day] += sum;
            }
        }

        int firstEven(Setting setting) {
            fillStores(setting);
            for (int day = 0; day < DAYS; day++) {
                if (hereStore[day] == thereStore[day]) {
                    return day;
                }
            }
            return NONE;
        }

        int poorestDay(Setting setting, int side) {
            fillStores(setting);
            int[] stores = side == HERE ? hereStore : thereStore;
            int poorest = 0;
            for (int day = 1; day < DAYS; day++) {
                if (stores[day] < stores[poorest]) {
                    poorest = day;
                }
            }
            return poorest;
        }
    }

    /** Rows of deeds here in place of a way: for gifts there, for the gain of both. */
    private static final class Planner {
        private static final int MAX_PLAN = 5;
        /** The last deed here, or none as yet, and the last one there. */
        private static final int STATES = (MAX_DEEDS + 1) * MAX_DEEDS;
        private static final int BEGINNING = MAX_DEEDS * MAX_DEEDS + IDLE;
        /** Below all that a pair can gain: no row of deeds leads there. */
        private static final int UNREACHED = -1000000;

        final int[] row;
        int planLength;
        private final Land land;
        private final Judge judge;
        private int[] reached;
        private int[] following;
        private final Setting setting;
        private int pair;
        private int wanted;
        private int length;
        private int leastGift;
        private int mostGift;

        Planner(Land itsLand, Judge itsJudge, Setting now) {
            land = itsLand;
            judge = itsJudge;
            setting = now;
            row = new int[MAX_PLAN];
            planLength = 0;
            reached = new int[STATES];
            following = new int[STATES];
            pair = 0;
            wanted = 0;
            length = 0;
            leastGift = 0;
            mostGift = 0;
        }

        int shortest(int itsPair, int gifts) {
            pair = itsPair;
            wanted = gifts;
            boundGifts();
            planLength = 0;
            int waiting = setting.delay * land.gift[IDLE];
            for (int deeds = 1; deeds <= MAX_PLAN; deeds++) {
                length = deeds;
                if (completes(0, IDLE, waiting)) {
                    planLength = deeds;
                    return deeds;
                }
            }
            return NONE;
        }

        private void boundGifts() {
            leastGift = land.gift[IDLE];
            mostGift = land.gift[IDLE];
            for (int deed = 1; deed < land.deeds; deed++) {
                leastGift = Math.min(leastGift, land.gift[deed]);
                mostGift = Math.max(mostGift, land.gift[deed]);
            }
        }

        /** Whether the row, told up to a day, can be ended so that the gifts are as wanted. */
        private boolean completes(int day, int lastThere, int sum) {
            int missing = wanted - sum;
            if (day >= length) {
                return missing == 0;
            }
            int left = length - day;
            if (missing < left * leastGift || missing > left * mostGift) {
                return false;
            }
            for (int deed = 0; deed < land.deeds; deed++) {
                row[day] = deed;
                boolean again = day > 0 && row[day - 1] == deed;
                int answer = answerTo(deed, day, again, lastThere);
                if (completes(day + 1, answer, sum + land.gift[answer])) {
                    return true;
                }
            }
            return false;
        }

        /** What one who shirks nothing does, a delay later, for a deed here. */
        private int answerTo(int deed, int day, boolean again, int lastThere) {
            int due = judge.due(setting, pair, deed, day, again, lastThere);
            return due == NONE ? IDLE : due;
        }

        int most(int itsPair, int days) {
            pair = itsPair;
            fillUnreached(reached);
            reached[BEGINNING] = Math.min(setting.delay, days) * land.gain[IDLE];
            for (int day = 0; day < days; day++) {
                fillUnreached(following);
                for (int state = 0; state < STATES; state++) {
                    if (reached[state] != UNREACHED) {
                        spread(state, day, day + setting.delay < days);
                    }
                }
                int[] spare = reached;
                reached = following;
                following = spare;
            }
            return mostReached();
        }

        private static void fillUnreached(int[] states) {
            for (int i = 0; i < states.length; i++) {
                states[i] = UNREACHED;
            }
        }

        /** From one state to those that one more deed here leads to. */
        private void spread(int state, int day, boolean answered) {
            int lastHere = state / MAX_DEEDS;
            int lastThere = state % MAX_DEEDS;
            for (int deed = 0; deed < land.deeds; deed++) {
                int answer = answerTo(deed, day, deed == lastHere, lastThere);
                int gain = reached[state] + land.gain[deed] + (answered ? land.gain[answer] : 0);
                int next = deed * MAX_DEEDS + answer;
                following[next] = Math.max(following[next], gain);
            }
        }

        private int mostReached() {
            int most = UNREACHED;
            for (int state = 0; state < STATES; state++) {
                most = Math.max(most, reached[state]);
            }
            return most;
        }
    }

    /** What would be by other treaties, delays, weather, ways. */
    private static final class Trials {
        private static final int CLASH = 5;

        final int[] exchangeRow;
        int exchangeGain;
        private final Land land;
        private final Life life;
        private final Setting trial;
        private final int[] gainByWay;
        private final int[] taken;
        private final int[] told;
        private final int[] firstGains;
        private final int[] otherGains;
        private boolean exchanged;

        Trials(Land itsLand, Life itsLife) {
            land = itsLand;
            life = itsLife;
            trial = new Setting();
            exchangeRow = new int[MAX_PAIRS];
            exchangeGain = 0;
            gainByWay = new int[MAX_PAIRS * MAX_PAIRS];
            taken = new int[MAX_PAIRS];
            told = new int[2];
            firstGains = new int[2];
            otherGains = new int[2];
            exchanged = false;
        }

        int gainByTreaty(Setting now, int treaty) {
            trial.copyFrom(now);
            trial.treaty = treaty;
            return life.gainOfAllThere(trial);
        }

        int bestTreaty(Setting now) {
            trial.copyFrom(now);
            trial.treaty = NONE;
            int best = NONE;
            int most = life.gainOfAllThere(trial);
            for (int treaty = 0; treaty < land.treaties; treaty++) {
                trial.treaty = treaty;
                int gain = life.gainOfAllThere(trial);
                if (gain > most) {
                    most = gain;
                    best = treaty;
                }
            }
            return best;
        }

        int bestDelay(Setting now) {
            trial.copyFrom(now);
            trial.delay = 0;
            int best = 0;
            int most = life.stored(trial, THERE, DAYS);
            for (int delay = 1; delay <= MAX_DELAY; delay++) {
                trial.delay = delay;
                int stored = life.stored(trial, THERE, DAYS);
                if (stored > most) {
                    most = stored;
                    best = delay;
                }
            }
            return best;
        }

        int harmfulWeather(Setting now) {
            trial.copyFrom(now);
            int worst = NONE;
            int most = life.gainOfAllThere(now);
            for (int i = 0; i < now.weathers; i++) {
                trial.weather[i] = 1 - now.weather[i];
                int gain = life.gainOfAllThere(trial);
                trial.weather[i] = now.weather[i];
                if (gain > most) {
                    most = gain;
                    worst = i;
                }
            }
            return worst;
        }

        int poorestPair(Setting now) {
            int poorest = NONE;
            int least = 0;
            for (int pair = 0; pair < now.pairs; pair++) {
                int gain = life.gainThere(now, pair, DAYS);
                if (poorest == NONE || gain < least) {
                    least = gain;
                    poorest = pair;
                }
            }
            return poorest;
        }

        int deedToStop(Setting now, int pair) {
            int best = NONE;
            int most = life.gainThere(now, pair, DAYS);
            for (int deed = 1; deed < land.deeds; deed++) {
                trial.copyFrom(now);
                // A deed that the way hasn't changes nothing, so it can't gain more.
                leaveOut(pair, deed);
                int gain = life.gainThere(trial, pair, DAYS);
                if (gain > most) {
                    most = gain;
                    best = deed;
                }
            }
            return best;
        }

        private void leaveOut(int pair, int deed) {
            for (int i = 0; i < trial.lengths[pair]; i++) {
                if (trial.ways[pair * MAX_WAY + i] == deed) {
                    trial.ways[pair * MAX_WAY + i] = IDLE;
                }
            }
        }

        int placesToSwap(Setting now, int pair) {
            int best = NONE;
            int most = life.gainThere(now, pair, DAYS);
            int length = now.lengths[pair];
            for (int i = 0; i < length; i++) {
                for (int j = i + 1; j < length; j++) {
                    trial.copyFrom(now);
                    trial.ways[pair * MAX_WAY + i] = now.ways[pair * MAX_WAY + j];
                    trial.ways[pair * MAX_WAY + j] = now.ways[pair * MAX_WAY + i];
                    int gain = life.gainThere(trial, pair, DAYS);
                    if (gain > most) {
                        most = gain;
                        best = 10 * i + j;
                    }
                }
            }
            return best;
        }

        int helpedPairs(Setting now, int deed) {
            trial.copyFrom(now);
            int bits = 0;
            for (int pair = 0; pair < now.pairs; pair++) {
                trial.doOnly(pair, deed);
                int gain = life.gainThere(trial, pair, DAYS);
                if (gain > life.gainThere(now, pair, DAYS)) {
                    bits |= 1 << pair;
                }
            }
            return bits;
        }

        int yearsBySeed(Setting now, int seed, int days, int what) {
            trial.copyFrom(now);
            trial.weathers = days;
            int drawn = seed;
            for (int day = 0; day < days && day < DAYS; day++) {
                drawn = drawn * 1103515245 + 12345;
                trial.weather[day] = (drawn >>> 16 & 32767) % 4 == 0 ? 1 : 0;
            }
            if (what == 2) {
                return daysDoneAgain(days);
            }
            return life.stored(trial, what == 0 ? THERE : HERE, days);
        }

        private int daysDoneAgain(int days) {
            int number = 0;
            for (int day = trial.delay; day < days && trial.pairs > 0; day++) {
                if (trial.foggy(day - trial.delay)) {
                    number++;
                }
            }
            return number;
        }

        void findExchange(Setting now, int days) {
            trial.copyFrom(now);
            for (int pair = 0; pair < now.pairs; pair++) {
                for (int owner = 0; owner < now.pairs; owner++) {
                    trial.takeWay(pair, now, owner);
                    gainByWay[pair * MAX_PAIRS + owner] = life.gainThere(trial, pair, days);
                }
            }
            exchanged = false;
            exchangeGain = 0;
            tryOwners(0, now.pairs, 0, 0);
        }

        /** Gives the pairs from one on their ways, first owners first, and keeps the best row. */
        private void tryOwners(int pair, int pairs, int given, int gain) {
            if (pair >= pairs || pair >= MAX_PAIRS) {
                keepIfBetter(gain);
                return;
            }
            int own = gainByWay[pair * MAX_PAIRS + pair];
            for (int owner = 0; owner < pairs; owner++) {
                int more = gainByWay[pair * MAX_PAIRS + owner];
                if ((given >> owner & 1) == 0 && more >= own) {
                    taken[pair] = owner;
                    tryOwners(pair + 1, pairs, given | 1 << owner, gain + more);
                }
            }
        }

        private void keepIfBetter(int gain) {
            if (!exchanged || gain > exchangeGain) {
                exchanged = true;
                exchangeGain = gain;
                System.arraycopy(taken, 0, exchangeRow, 0, MAX_PAIRS);
            }
        }

        void setGame(Setting now, int pair, int other, int day, int deeds) {
            told[0] = deeds / 10;
            told[1] = deeds % 10;
            for (int choice = 0; choice < 2; choice++) {
                firstGains[choice] = gainByDeed(now, pair, day, told[choice]);
                otherGains[choice] = gainByDeed(now, other, day, told[choice]);
            }
        }

        private int gainByDeed(Setting now, int pair, int day, int deed) {
            life.liveBut(now, pair, day, deed);
            int answered = day + now.delay;
            int gain = land.gain[deed];
            return answered < DAYS ? gain + land.gain[life.there[answered]] : gain;
        }

        int countResting() {
            int number = 0;
            for (int couple = 0; couple < 4; couple++) {
                if (rests(couple / 2, couple % 2)) {
                    number++;
                }
            }
            return number;
        }

        int firstResting() {
            for (int couple = 0; couple < 4; couple++) {
                if (rests(couple / 2, couple % 2)) {
                    return 10 * (couple / 2) + couple % 2;
                }
            }
            return NONE;
        }

        private boolean rests(int first, int other) {
            int loss = clash(first, other);
            boolean firstStays = firstGains[first] - loss
                    >= firstGains[1 - first] - clash(1 - first, other);
            boolean otherStays = otherGains[other] - loss
                    >= otherGains[1 - other] - clash(first, 1 - other);
            return firstStays && otherStays;
        }

        private int clash(int first, int other) {
            return told[first] == told[other] ? CLASH : 0;
        }
    }

    /** What follows from what was seen. */
    private static final class Witness {
        int tellingDay;
        int unlikeDeeds;
        private final Land land;
        private final Life life;
        private final Setting trial;
        private final int[] doneThere;

        Witness(Land itsLand, Life itsLife) {
            land = itsLand;
            life = itsLife;
            trial = new Setting();
            doneThere = new int[DAYS];
            tellingDay = NONE;
            unlikeDeeds = 0;
        }

        int countFalse(Setting now, Seen seen) {
            int wrong = 0;
            for (int pair = 0; pair < now.pairs; pair++) {
                life.live(now, pair);
                wrong += seen.falseOf(pair, life.there);
            }
            return wrong;
        }

        private boolean othersAreSo(Setting now, Seen seen, int pair) {
            for (int other = 0; other < now.pairs; other++) {
                if (other != pair) {
                    life.live(now, other);
                    if (seen.falseOf(other, life.there) > 0) {
                        return false;
                    }
                }
            }
            return true;
        }

        int possibleDeeds(Setting now, Seen seen, int pair, int day) {
            if (!othersAreSo(now, seen, pair)) {
                return 0;
            }
            int bits = 0;
            for (int deed = 0; deed < land.deeds; deed++) {
                life.liveBut(now, pair, day, deed);
                if (seen.falseOf(pair, life.there) == 0) {
                    bits |= 1 << deed;
                }
            }
            return bits;
        }

        int possibleShirkers(Setting now, Seen seen) {
            trial.copyFrom(now);
            int bits = 0;
            for (int pair = 0; pair < now.pairs; pair++) {
                trial.shirkers = now.shirkers ^ 1 << pair;
                life.live(trial, pair);
                if (seen.falseOf(pair, life.there) == 0 && othersAreSo(now, seen, pair)) {
                    bits |= 1 << pair;
                }
            }
            return bits;
        }

        /** The day that tells most of which of some deeds was done here. */
        void findMorning(Setting now, int pair, int day, int deeds) {
            gatherDone(now, pair, day, deeds);
            tellingDay = NONE;
            unlikeDeeds = 0;
            for (int morning = 0; morning < DAYS; morning++) {
                int unlike = Integer.bitCount(doneThere[morning]);
                if (unlike > unlikeDeeds) {
                    unlikeDeeds = unlike;
                    tellingDay = morning;
                }
            }
        }

        /** For each day, as bits, what is done there by one or another of the deeds. */
        private void gatherDone(Setting now, int pair, int day, int deeds) {
            for (int i = 0; i < DAYS; i++) {
                doneThere[i] = 0;
            }
            for (int deed = 0; deed < land.deeds; deed++) {
                if ((deeds >> deed & 1) == 1) {
                    life.liveBut(now, pair, day, deed);
                    for (int i = 0; i < DAYS; i++) {
                        doneThere[i] |= 1 << life.there[i];
                    }
                }
            }
        }
    }
}
