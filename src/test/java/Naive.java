import java.util.ArrayDeque;
import java.util.ArrayList;
import java.util.Deque;
import java.util.HashSet;
import java.util.List;
import java.util.NoSuchElementException;
import java.util.Set;

/**
 * The document once more, written as plainly as can be and in another way than the program: trees
 * for treaties, whole copies for what is undone, all rows tried one by one. RandomTest compares both.
 */
final class Naive {
    static final int NONE = -1;

    // ---- texts

    static final class Fault extends RuntimeException {
        private static final long serialVersionUID = 1L;
        final int kind;
        final int place;

        Fault(int kind, int place) {
            super(null, null, false, false);
            this.kind = kind;
            this.place = place;
        }
    }

    record Token(String text, int place) {
        boolean isWord() {
            return !text.isEmpty() && text.charAt(0) >= 'a' && text.charAt(0) <= 'z';
        }

        boolean isNumber() {
            return !text.isEmpty() && text.charAt(0) >= '0' && text.charAt(0) <= '9';
        }

        boolean is(String other) {
            return text.equals(other);
        }
    }

    /** A deed done here, of which a treaty speaks. */
    record Done(int deed, int gain, int gift, int day, int pair, int again) {
    }

    interface Expr {
        int value(Done done);
    }

    static final class World {
        List<int[]> deeds = new ArrayList<>();
        List<Expr> treaties = new ArrayList<>();
        State state = new State();
    }

    static final class State {
        List<List<Integer>> ways = new ArrayList<>();
        List<Integer> weather = new ArrayList<>();
        int delay = 1;
        int treaty = NONE;
        Set<Integer> shirkers = new HashSet<>();

        State copy() {
            State c = new State();
            for (List<Integer> way : ways) {
                c.ways.add(new ArrayList<>(way));
            }
            c.weather.addAll(weather);
            c.delay = delay;
            c.treaty = treaty;
            c.shirkers.addAll(shirkers);
            return c;
        }
    }

    static final class Parser {
        final List<Token> tokens = new ArrayList<>();
        final World world = new World();
        final Set<Integer> opposed = new HashSet<>();
        boolean weather;
        boolean delay;
        int at;

        Parser(String text) {
            int i = 0;
            while (i < text.length()) {
                char c = text.charAt(i);
                int j = i + 1;
                if (c >= 'a' && c <= 'z') {
                    while (j < text.length() && text.charAt(j) >= 'a' && text.charAt(j) <= 'z') {
                        j++;
                    }
                } else if (c >= '0' && c <= '9') {
                    while (j < text.length() && text.charAt(j) >= '0' && text.charAt(j) <= '9') {
                        j++;
                    }
                }
                if (c != ' ' && c != '\n') {
                    tokens.add(new Token(text.substring(i, j), i));
                }
                i = j;
            }
            tokens.add(new Token("", text.length()));
        }

        Token peek() {
            return tokens.get(at);
        }

        Token take() {
            return tokens.get(at++);
        }

        Fault bad(int kind) {
            return new Fault(kind, peek().place);
        }

        World world() {
            while (!peek().text.isEmpty()) {
                line();
                if (!peek().is(";")) {
                    throw bad(1);
                }
                take();
            }
            if (!world.treaties.isEmpty()) {
                world.state.treaty = 0;
            }
            return world;
        }

        void line() {
            switch (peek().text) {
                case "deed" -> {
                    limit(world.deeds.size(), 8);
                    take();
                    int gain = worth();
                    int gift = worth();
                    world.deeds.add(new int[] {gain, gift, world.deeds.size()});
                }
                case "opposite" -> {
                    take();
                    int first = deed();
                    if (opposed.contains(first)) {
                        throw bad(4);
                    }
                    take();
                    int second = deed();
                    take();
                    opposed.add(first);
                    world.deeds.get(first)[2] = second;
                }
                case "pair" -> {
                    limit(world.state.ways.size(), 6);
                    take();
                    List<Integer> way = new ArrayList<>();
                    do {
                        if (peek().isNumber()) {
                            limit(way.size(), 8);
                        }
                        way.add(deed());
                        take();
                    } while (peek().isNumber());
                    world.state.ways.add(way);
                }
                case "weather" -> {
                    if (weather) {
                        throw bad(5);
                    }
                    weather = true;
                    take();
                    do {
                        if (peek().isNumber()) {
                            limit(world.state.weather.size(), 10);
                        }
                        world.state.weather.add(number(1));
                    } while (peek().isNumber());
                }
                case "delay" -> {
                    if (delay) {
                        throw bad(5);
                    }
                    delay = true;
                    take();
                    world.state.delay = number(3);
                }
                case "treaty" -> {
                    limit(world.treaties.size(), 3);
                    take();
                    world.treaties.add(expr(0));
                }
                default -> throw bad(1);
            }
        }

        void limit(int have, int most) {
            if (have == most) {
                throw bad(2);
            }
        }

        int worth() {
            int sign = 1;
            if (peek().is("-")) {
                take();
                sign = -1;
            }
            return sign * number(20);
        }

        int number(int most) {
            if (!peek().isNumber()) {
                throw bad(1);
            }
            if (peek().text.length() > 4 || Integer.parseInt(peek().text) > most) {
                throw bad(2);
            }
            return Integer.parseInt(take().text);
        }

        int deed() {
            if (!peek().isNumber()) {
                throw bad(1);
            }
            if (peek().text.length() > 4) {
                throw bad(2);
            }
            int deed = Integer.parseInt(peek().text);
            if (deed >= world.deeds.size()) {
                throw bad(3);
            }
            return deed;
        }

        Expr expr(int within) {
            Token first = peek();
            if (within == 6 && (first.isNumber() || first.isWord() || first.is("("))) {
                throw bad(2);
            }
            Expr left = and(within);
            while (peek().is("or")) {
                take();
                Expr a = left;
                Expr b = and(within);
                left = d -> truth(a.value(d) != 0 | b.value(d) != 0);
            }
            return left;
        }

        Expr and(int within) {
            Expr left = not(within);
            while (peek().is("and")) {
                take();
                Expr a = left;
                Expr b = not(within);
                left = d -> truth(a.value(d) != 0 & b.value(d) != 0);
            }
            return left;
        }

        Expr not(int within) {
            int nots = 0;
            while (peek().is("not")) {
                limit(nots, 6);
                take();
                nots++;
            }
            Expr inner = test(within);
            if (nots == 0) {
                return inner;
            }
            boolean odd = nots % 2 == 1;
            return d -> truth((inner.value(d) == 0) == odd);
        }

        Expr test(int within) {
            Expr a = sum(within);
            if (peek().is("<")) {
                take();
                Expr b = sum(within);
                return d -> truth(a.value(d) < b.value(d));
            }
            if (peek().is("=")) {
                take();
                Expr b = sum(within);
                return d -> truth(a.value(d) == b.value(d));
            }
            return a;
        }

        Expr sum(int within) {
            Expr left = product(within);
            while (peek().is("+") || peek().is("-")) {
                boolean plus = take().is("+");
                Expr a = left;
                Expr b = product(within);
                left = d -> plus ? a.value(d) + b.value(d) : a.value(d) - b.value(d);
            }
            return left;
        }

        Expr product(int within) {
            Expr left = part(within);
            while (peek().is("*") || peek().is("/")) {
                boolean times = take().is("*");
                Expr a = left;
                Expr b = part(within);
                left = d -> times ? a.value(d) * b.value(d) : over(a.value(d), b.value(d));
            }
            return left;
        }

        Expr part(int within) {
            Token token = peek();
            if (token.isNumber()) {
                int n = number(9999);
                return d -> n;
            }
            if (token.is("(")) {
                take();
                Expr inner = expr(within + 1);
                if (!peek().is(")")) {
                    throw bad(1);
                }
                take();
                return inner;
            }
            if (!token.isWord()) {
                throw bad(1);
            }
            Expr value = switch (token.text) {
                case "deed" -> d -> d.deed;
                case "gain" -> d -> d.gain;
                case "gift" -> d -> d.gift;
                case "day" -> d -> d.day;
                case "pair" -> d -> d.pair;
                case "again" -> d -> d.again;
                default -> throw bad(3);
            };
            take();
            return value;
        }

        static int truth(boolean b) {
            return b ? 1 : 0;
        }

        static int over(int a, int b) {
            return b == 0 ? 0 : a / b;
        }
    }

    // ---- the object

    record Sight(int pair, int day, int deed) {
    }

    private World world = new World();
    private State now = world.state;
    private Deque<State> past = new ArrayDeque<>();
    private List<Sight> seen = new ArrayList<>();
    private List<Integer> row = new ArrayList<>();
    private final StringBuilder tape = new StringBuilder();
    private int faultPlace = NONE;
    private final int[] status = new int[3];
    private State imageNow;
    private Deque<State> imagePast;
    private List<Sight> imageSeen;

    int feed(int a, int b, int c, int d, int e) {
        if (tape.length() > 680) {
            return NONE;
        }
        for (int n : new int[] {a, b, c, d, e}) {
            for (int k = 3; k >= 0; k--) {
                tape.append((char) (n >>> 8 * k & 255));
            }
        }
        return tape.length();
    }

    int shores(int n) {
        if (n < 0 || n > tape.length()) {
            throw new IllegalArgumentException();
        }
        String text = tape.substring(0, n);
        tape.setLength(0);
        try {
            world = new Parser(text).world();
        } catch (Fault fault) {
            faultPlace = fault.place;
            status[0]++;
            return fault.kind;
        }
        now = world.state;
        past.clear();
        seen.clear();
        row.clear();
        imageNow = null;
        faultPlace = NONE;
        return 0;
    }

    int fault() {
        return faultPlace;
    }

    int count(int what) {
        int bits = 0;
        for (int p : now.shirkers) {
            bits |= 1 << p;
        }
        int[] all = {world.deeds.size(), now.ways.size(), now.weather.size(), now.delay,
            world.treaties.size(), now.treaty, bits, past.size(), seen.size(), tape.length(),
            status[0], status[1], status[2]};
        need(what >= 0 && what < all.length);
        return all[what];
    }

    int deed(int deed, int what) {
        needDeed(deed);
        need(what >= 0 && what <= 3);
        int[] it = world.deeds.get(deed);
        return what < 3 ? it[what] : world.deeds.get(it[2])[2] == deed ? 1 : 0;
    }

    int way(int pair, int i) {
        needPair(pair);
        List<Integer> way = now.ways.get(pair);
        need(i >= -1 && i < way.size());
        return i == NONE ? way.size() : way.get(i);
    }

    boolean fog(int day) {
        needDay(day);
        return foggy(now, day);
    }

    // ---- days

    static boolean foggy(State s, int day) {
        return !s.weather.isEmpty() && s.weather.get(day % s.weather.size()) == 1;
    }

    /** Deeds here of days 0 to 99. */
    int[] here(State s, int pair) {
        int[] row = new int[100];
        for (int d = 0; d < 100; d++) {
            row[d] = s.ways.get(pair).get(d % s.ways.get(pair).size());
        }
        return row;
    }

    /** By a row here: what he must there (0) and does (1) on as many days as are asked for. */
    int[][] there(State s, int pair, int[] here, int days, boolean shirker) {
        int[] must = new int[days];
        int[] does = new int[days];
        for (int d = 0; d < days; d++) {
            int from = d - s.delay;
            if (from < 0 || from >= here.length) {
                must[d] = NONE;
            } else if (foggy(s, from)) {
                must[d] = d == 0 ? 0 : does[d - 1];
            } else {
                int[] deed = world.deeds.get(here[from]);
                int again = from > 0 && here[from - 1] == here[from] ? 1 : 0;
                Done done = new Done(here[from], deed[0], deed[1], from, pair, again);
                boolean bound = s.treaty == NONE || world.treaties.get(s.treaty).value(done) > 0;
                must[d] = bound ? deed[2] : NONE;
            }
            does[d] = must[d] <= 0 || shirker ? 0 : must[d];
        }
        return new int[][] {must, does};
    }

    int[] thereNow(State s, int pair) {
        return there(s, pair, here(s, pair), 100, s.shirkers.contains(pair))[1];
    }

    int worth(int[] deeds, int days, int what) {
        int sum = 0;
        for (int d = 0; d < days; d++) {
            sum += world.deeds.get(deeds[d])[what];
        }
        return sum;
    }

    int thereGain(State s, int pair, int days) {
        return worth(thereNow(s, pair), days, 0);
    }

    int allGain(State s) {
        int sum = 0;
        for (int p = 0; p < s.ways.size(); p++) {
            sum += thereGain(s, p, 100);
        }
        return sum;
    }

    int stored(State s, int side, int days) {
        int sum = 0;
        for (int p = 0; p < s.ways.size(); p++) {
            sum += worth(side == 0 ? here(s, p) : thereNow(s, p), days, 1);
        }
        return sum;
    }

    int does(int pair, int side, int day) {
        needPair(pair);
        need(side == 0 || side == 1);
        needDay(day);
        return (side == 0 ? here(now, pair) : thereNow(now, pair))[day];
    }

    int must(int pair, int day) {
        needPair(pair);
        needDay(day);
        return there(now, pair, here(now, pair), 100, now.shirkers.contains(pair))[0][day];
    }

    int store(int side, int day) {
        need(side == 0 || side == 1);
        needDay(day);
        return stored(now, side, day + 1);
    }

    // ---- acts

    State act() {
        past.addLast(now);
        if (past.size() > 40) {
            past.removeFirst();
        }
        now = now.copy();
        return now;
    }

    int change(int pair, int i, int deed) {
        needPair(pair);
        needDeed(deed);
        if (i < 0 || i >= now.ways.get(pair).size()) {
            status[1]++;
            return NONE;
        }
        return act().ways.get(pair).set(i, deed);
    }

    int turn(int i) {
        if (i < 0 || i >= now.weather.size()) {
            status[1]++;
            return NONE;
        }
        int turned = 1 - now.weather.get(i);
        act().weather.set(i, turned);
        return turned;
    }

    int delay(int days) {
        if (days < 0 || days > 3) {
            status[1]++;
            return NONE;
        }
        int was = now.delay;
        act().delay = days;
        return was;
    }

    boolean sign(int treaty) {
        if (treaty < -1 || treaty >= world.treaties.size()) {
            status[1]++;
            return false;
        }
        act().treaty = treaty;
        return true;
    }

    boolean shirk(int pair, boolean shirks) {
        needPair(pair);
        if (now.shirkers.contains(pair) == shirks) {
            status[1]++;
            return false;
        }
        if (shirks) {
            act().shirkers.add(pair);
        } else {
            act().shirkers.remove(pair);
        }
        return true;
    }

    int undo() {
        if (past.isEmpty()) {
            return NONE;
        }
        now = past.removeLast();
        return past.size();
    }

    // ---- questions

    int gained(int pair, int side, int days) {
        needPair(pair);
        need(side == 0 || side == 1);
        needDays(days);
        return worth(side == 0 ? here(now, pair) : thereNow(now, pair), days, 0);
    }

    int fines(int pair, int days) {
        needPair(pair);
        needDays(days);
        if (!now.shirkers.contains(pair)) {
            return 0;
        }
        int[] must = there(now, pair, here(now, pair), 100, true)[0];
        int fines = 0;
        for (int d = 0; d < days; d++) {
            fines += must[d] > 0 ? 1 : 0;
        }
        return fines;
    }

    int unanswered(int pair) {
        needPair(pair);
        for (int d = 0; d + now.delay <= 99; d++) {
            if (thereNow(now, pair)[d + now.delay] != world.deeds.get(here(now, pair)[d])[2]) {
                return d;
            }
        }
        return NONE;
    }

    int even() {
        for (int d = 0; d < 100; d++) {
            if (stored(now, 0, d + 1) == stored(now, 1, d + 1)) {
                return d;
            }
        }
        return NONE;
    }

    int poorest(int side) {
        need(side == 0 || side == 1);
        int best = 0;
        int least = stored(now, side, 1);
        for (int d = 1; d < 100; d++) {
            int it = stored(now, side, d + 1);
            if (it < least) {
                least = it;
                best = d;
            }
        }
        return best;
    }

    int plan(int pair, int gifts) {
        needPair(pair);
        if (gifts < -100 || gifts > 100) {
            throw new IllegalArgumentException();
        }
        row.clear();
        int deeds = world.deeds.size();
        for (int n = 1, rows = deeds; n <= 5; n++, rows *= deeds) {
            for (int k = 0; k < rows; k++) {
                int[] here = digits(k, deeds, n);
                int[] does = there(now, pair, here, n + now.delay, false)[1];
                if (worth(does, does.length, 1) == gifts) {
                    for (int deed : here) {
                        row.add(deed);
                    }
                    return n;
                }
            }
        }
        return NONE;
    }

    static int[] digits(int k, int base, int n) {
        int[] digits = new int[n];
        for (int i = n - 1; i >= 0; i--) {
            digits[i] = k % base;
            k /= base;
        }
        return digits;
    }

    int planned(int i) {
        need(i >= 0 && i < row.size());
        return row.get(i);
    }

    int well(int pair, int days) {
        needPair(pair);
        if (days < 1 || days > 6) {
            throw new IllegalArgumentException();
        }
        int deeds = world.deeds.size();
        int rows = 1;
        for (int i = 0; i < days; i++) {
            rows *= deeds;
        }
        int most = Integer.MIN_VALUE;
        for (int k = 0; k < rows; k++) {
            int[] here = digits(k, deeds, days);
            int[] does = there(now, pair, here, days, false)[1];
            most = Math.max(most, worth(here, days, 0) + worth(does, days, 0));
        }
        return most;
    }

    int exchange(int days, int i) {
        int pairs = now.ways.size();
        need(i >= -1 && i < pairs);
        needDays(days);
        int most = Integer.MIN_VALUE;
        int[] best = null;
        int rows = 1;
        for (int k = 0; k < pairs; k++) {
            rows *= pairs;
        }
        int[][] gain = new int[pairs][pairs];
        for (int p = 0; p < pairs; p++) {
            for (int q = 0; q < pairs; q++) {
                State s = now.copy();
                s.ways.set(p, now.ways.get(q));
                gain[p][q] = thereGain(s, p, days);
            }
        }
        for (int k = 0; k < rows; k++) {
            int[] owners = digits(k, pairs, pairs);
            Set<Integer> all = new HashSet<>();
            int sum = 0;
            boolean fair = true;
            for (int p = 0; p < pairs; p++) {
                all.add(owners[p]);
                sum += gain[p][owners[p]];
                fair &= gain[p][owners[p]] >= gain[p][p];
            }
            if (fair && all.size() == pairs && sum > most) {
                most = sum;
                best = owners;
            }
        }
        return i == NONE ? most : best[i];
    }

    int see(int pair, int day, int deed) {
        needPair(pair);
        needDay(day);
        needDeed(deed);
        if (seen.size() == 8) {
            status[2]++;
            return NONE;
        }
        seen.add(new Sight(pair, day, deed));
        return seen.size();
    }

    void forget() {
        seen.clear();
    }

    int falsely() {
        int wrong = 0;
        for (Sight s : seen) {
            wrong += thereNow(now, s.pair)[s.day] == s.deed ? 0 : 1;
        }
        return wrong;
    }

    boolean allSo(int pair, int[] there) {
        for (Sight s : seen) {
            int[] does = s.pair == pair ? there : thereNow(now, s.pair);
            if (does[s.day] != s.deed) {
                return false;
            }
        }
        return true;
    }

    int[] thereHadHe(int pair, int day, int deed) {
        int[] here = here(now, pair);
        here[day] = deed;
        return there(now, pair, here, 100, now.shirkers.contains(pair))[1];
    }

    int did(int pair, int day) {
        needPair(pair);
        needDay(day);
        int bits = 0;
        for (int x = 0; x < world.deeds.size(); x++) {
            if (allSo(pair, thereHadHe(pair, day, x))) {
                bits |= 1 << x;
            }
        }
        return bits;
    }

    int morning(int pair, int day, int what) {
        needPair(pair);
        needDay(day);
        need(what == 0 || what == 1);
        int deeds = did(pair, day);
        int best = NONE;
        int most = 0;
        for (int d = 0; d < 100; d++) {
            Set<Integer> unlike = new HashSet<>();
            for (int x = 0; x < 8; x++) {
                if ((deeds & 1 << x) != 0) {
                    unlike.add(thereHadHe(pair, day, x)[d]);
                }
            }
            if (unlike.size() > most) {
                most = unlike.size();
                best = d;
            }
        }
        return what == 0 ? best : most;
    }

    int found() {
        int bits = 0;
        for (int p = 0; p < now.ways.size(); p++) {
            if (allSo(p, there(now, p, here(now, p), 100, !now.shirkers.contains(p))[1])) {
                bits |= 1 << p;
            }
        }
        return bits;
    }

    int compared(int treaty) {
        need(treaty >= -1 && treaty < world.treaties.size());
        State s = now.copy();
        s.treaty = treaty;
        return allGain(s);
    }

    int best() {
        int best = NONE;
        for (int t = 0; t < world.treaties.size(); t++) {
            if (compared(t) > compared(best)) {
                best = t;
            }
        }
        return best;
    }

    int delayed() {
        int best = 0;
        for (int d = 1; d <= 3; d++) {
            State a = now.copy();
            State b = now.copy();
            a.delay = d;
            b.delay = best;
            if (stored(a, 1, 100) > stored(b, 1, 100)) {
                best = d;
            }
        }
        return best;
    }

    int harms() {
        int best = NONE;
        int most = allGain(now);
        for (int i = 0; i < now.weather.size(); i++) {
            State s = now.copy();
            s.weather.set(i, 1 - s.weather.get(i));
            if (allGain(s) > most) {
                most = allGain(s);
                best = i;
            }
        }
        return best;
    }

    int choiceGain(int pair, int day, int mine, int his) {
        int gain = world.deeds.get(mine)[0] - (mine == his ? 5 : 0);
        int later = day + now.delay;
        if (later <= 99) {
            gain += world.deeds.get(thereHadHe(pair, day, mine)[later])[0];
        }
        return gain;
    }

    int game(int pair, int other, int day, int deeds, int what) {
        needPair(pair);
        needPair(other);
        needDay(day);
        need(deeds >= 0);
        needDeed(deeds / 10);
        needDeed(deeds % 10);
        need(what == 0 || what == 1);
        if (pair == other) {
            throw new IllegalArgumentException();
        }
        int[] told = {deeds / 10, deeds % 10};
        List<Integer> resting = new ArrayList<>();
        for (int a = 0; a < 2; a++) {
            for (int b = 0; b < 2; b++) {
                int first = choiceGain(pair, day, told[a], told[b]);
                int second = choiceGain(other, day, told[b], told[a]);
                if (choiceGain(pair, day, told[1 - a], told[b]) <= first
                        && choiceGain(other, day, told[1 - b], told[a]) <= second) {
                    resting.add(10 * a + b);
                }
            }
        }
        return what == 0 ? resting.size() : resting.isEmpty() ? NONE : resting.get(0);
    }

    int years(int seed, int n, int what) {
        need(what >= 0 && what <= 2);
        needDays(n);
        State s = now.copy();
        s.weather.clear();
        for (int d = 0; d < n; d++) {
            long next = (long) seed * 1103515245L + 12345L;
            seed = (int) next;
            int bits = 0;
            for (int k = 16; k <= 30; k++) {
                bits += (next >> k & 1) << k - 16;
            }
            s.weather.add(bits % 4 == 0 ? 1 : 0);
        }
        if (what < 2) {
            return stored(s, 1 - what, n);
        }
        int days = 0;
        for (int d = s.delay; d < n; d++) {
            days += s.weather.get(d - s.delay) == 1 && !s.ways.isEmpty() ? 1 : 0;
        }
        return days;
    }

    int ring(int deed) {
        needDeed(deed);
        Set<Integer> met = new HashSet<>();
        while (met.add(deed)) {
            deed = world.deeds.get(deed)[2];
        }
        return met.size();
    }

    int idle(int pair, int side) {
        needPair(pair);
        need(side == 0 || side == 1);
        int n = 0;
        for (int deed : side == 0 ? here(now, pair) : thereNow(now, pair)) {
            n += deed == 0 ? 1 : 0;
        }
        return n;
    }

    int waves(int day) {
        needDay(day);
        int bits = 0;
        for (int p = 0; p < now.ways.size(); p++) {
            bits |= here(now, p)[day] == thereNow(now, p)[day] ? 1 << p : 0;
        }
        return bits;
    }

    int ruined() {
        int worst = NONE;
        for (int p = 0; p < now.ways.size(); p++) {
            if (worst == NONE || thereGain(now, p, 100) < thereGain(now, worst, 100)) {
                worst = p;
            }
        }
        return worst;
    }

    int stop(int pair) {
        needPair(pair);
        int best = NONE;
        int most = thereGain(now, pair, 100);
        for (int x = 1; x < world.deeds.size(); x++) {
            if (now.ways.get(pair).contains(x)) {
                int deed = x;
                State s = now.copy();
                s.ways.get(pair).replaceAll(d -> d == deed ? 0 : d);
                if (thereGain(s, pair, 100) > most) {
                    most = thereGain(s, pair, 100);
                    best = x;
                }
            }
        }
        return best;
    }

    int swap(int pair) {
        needPair(pair);
        int best = NONE;
        int most = thereGain(now, pair, 100);
        int length = now.ways.get(pair).size();
        for (int i = 0; i < length; i++) {
            for (int j = i + 1; j < length; j++) {
                State s = now.copy();
                java.util.Collections.swap(s.ways.get(pair), i, j);
                if (thereGain(s, pair, 100) > most) {
                    most = thereGain(s, pair, 100);
                    best = 10 * i + j;
                }
            }
        }
        return best;
    }

    int year(int pair) {
        needPair(pair);
        int[] does = thereNow(now, pair);
        for (int n = 1; n <= 50; n++) {
            boolean all = true;
            for (int d = 50; d <= 99; d++) {
                all &= does[d] == does[d - n];
            }
            if (all) {
                return n;
            }
        }
        return NONE;
    }

    int spell(int what) {
        need(what == 0 || what == 1);
        for (int n = 100; n >= 1; n--) {
            for (int d = 0; d + n <= 100; d++) {
                boolean all = true;
                for (int k = d; k < d + n; k++) {
                    all &= foggy(now, k);
                }
                if (all) {
                    return what == 0 ? n : d;
                }
            }
        }
        return what == 0 ? 0 : NONE;
    }

    int helps(int deed) {
        needDeed(deed);
        int bits = 0;
        for (int p = 0; p < now.ways.size(); p++) {
            State s = now.copy();
            s.ways.set(p, List.of(deed));
            bits |= thereGain(s, p, 100) > thereGain(now, p, 100) ? 1 << p : 0;
        }
        return bits;
    }

    void image() {
        imageNow = now.copy();
        imagePast = new ArrayDeque<>(past);
        imageSeen = new ArrayList<>(seen);
    }

    boolean restore() {
        if (imageNow == null) {
            return false;
        }
        now = imageNow.copy();
        past = new ArrayDeque<>(imagePast);
        seen = new ArrayList<>(imageSeen);
        return true;
    }

    // ---- refusals

    static void need(boolean is) {
        if (!is) {
            throw new NoSuchElementException();
        }
    }

    void needDeed(int deed) {
        need(deed >= 0 && deed < world.deeds.size());
    }

    void needPair(int pair) {
        need(pair >= 0 && pair < now.ways.size());
    }

    void needDay(int day) {
        need(day >= 0 && day <= 99);
    }

    void needDays(int days) {
        if (days < 0 || days > 100) {
            throw new IllegalArgumentException();
        }
    }
}
