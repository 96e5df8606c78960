import java.util.Random;
import java.util.function.Supplier;

/**
 * Runs of random calls, with random texts (many of them faulty), on the program and on Naive: both
 * must answer alike. The argument, if any, is how many runs there are.
 */
public final class RandomTest {
    private static final String[] NAMES = {"count", "deed", "way", "fog", "does", "must", "store",
        "change", "turn", "delay", "sign", "shirk", "undo", "gained", "fines", "unanswered", "even",
        "poorest", "plan", "planned", "well", "exchange", "see", "forget", "falsely", "did",
        "morning", "found", "compared", "best", "delayed", "harms", "game", "years", "ring", "idle",
        "waves", "ruined", "stop", "swap", "year", "spell", "helps", "image", "restore", "fault",
        "feed", "shores", "text"};
    private static final String[] SCRAPS = {"deed", "opposite", "pair", "weather", "delay", "treaty",
        "not", "and", "or", "again", "gain", "gift", "day", "sun", "0", "1", "2", "7", "9", "20",
        "21", "9999", "10000", "00001", ";", "(", ")", "+", "-", "*", "/", "<", "=", "#", "A", "\t",
        "\u00e9", "\u0000", "not not not", "(((((", "deed 1 1;", "pair 0;", "treaty 1;",
        "weather 0;", "delay 0;", "opposite 0 0;"};

    private final Random random;
    private OppositeShores program = new OppositeShores();
    private Naive naive = new Naive();
    private final StringBuilder told = new StringBuilder();
    private int deeds = 0;
    private int pairs = 0;

    private RandomTest(long seed) {
        random = new Random(seed);
    }

    public static void main(String[] args) {
        int runs = args.length > 0 ? Integer.parseInt(args[0]) : 1500;
        int wrong = 0;
        for (int run = 0; run < runs && wrong < 5; run++) {
            String fault = new RandomTest(run).run();
            if (fault != null) {
                wrong++;
                System.out.println("run " + run + ": " + fault);
            }
        }
        System.out.println("RandomTest: " + runs + " runs, " + wrong + " wrong");
        if (wrong != 0) {
            System.exit(1);
        }
    }

    private String run() {
        int calls = 20 + random.nextInt(100);
        boolean many = random.nextInt(10) == 0;
        for (int i = 0; i < calls; i++) {
            String name = i == 0 && random.nextInt(10) > 0 ? "text" : NAMES[random.nextInt(NAMES.length)];
            if (many && random.nextInt(3) > 0) {
                name = NAMES[7 + random.nextInt(6)];
            }
            if (name.equals("text") && i > 0 && random.nextInt(4) > 0) {
                continue;
            }
            String fault = name.equals("text") ? text() : call(name);
            if (fault != null) {
                return fault;
            }
        }
        return null;
    }

    private int below(int n) {
        // Now and then something that isn't there.
        int kind = random.nextInt(25);
        return kind == 0 ? -1 : kind == 1 ? n : kind == 2 ? odd() : n > 0 ? random.nextInt(n) : 0;
    }

    private int odd() {
        int[] odds = {Integer.MIN_VALUE, Integer.MAX_VALUE, -2, 100, 101, 1000, -1000, 8, 33};
        return odds[random.nextInt(odds.length)];
    }

    private int days() {
        return random.nextInt(6) == 0 ? odd() : random.nextInt(101);
    }

    private String call(String name) {
        int p = below(pairs);
        int x = below(deeds);
        int d = below(100);
        int w = below(2);
        switch (name) {
            case "count": { int a = below(13); return same("count(" + a + ")", () -> program.count(a), () -> naive.count(a)); }
            case "deed": { int a = below(4); return same("deed(" + x + "," + a + ")", () -> program.deed(x, a), () -> naive.deed(x, a)); }
            case "way": { int a = random.nextInt(10) - 1; return same("way(" + p + "," + a + ")", () -> program.way(p, a), () -> naive.way(p, a)); }
            case "fog": return same("fog(" + d + ")", () -> program.fog(d), () -> naive.fog(d));
            case "does": return same("does(" + p + "," + w + "," + d + ")", () -> program.does(p, w, d), () -> naive.does(p, w, d));
            case "must": return same("must(" + p + "," + d + ")", () -> program.must(p, d), () -> naive.must(p, d));
            case "store": return same("store(" + w + "," + d + ")", () -> program.store(w, d), () -> naive.store(w, d));
            case "change": { int a = below(5); return same("change(" + p + "," + a + "," + x + ")", () -> program.change(p, a, x), () -> naive.change(p, a, x)); }
            case "turn": { int a = below(6); return same("turn(" + a + ")", () -> program.turn(a), () -> naive.turn(a)); }
            case "delay": { int a = below(4); return same("delay(" + a + ")", () -> program.delay(a), () -> naive.delay(a)); }
            case "sign": { int a = random.nextInt(5) - 1; return same("sign(" + a + ")", () -> program.sign(a), () -> naive.sign(a)); }
            case "shirk": { boolean a = random.nextBoolean(); return same("shirk(" + p + "," + a + ")", () -> program.shirk(p, a), () -> naive.shirk(p, a)); }
            case "undo": return same("undo()", () -> program.undo(), () -> naive.undo());
            case "gained": { int a = days(); return same("gained(" + p + "," + w + "," + a + ")", () -> program.gained(p, w, a), () -> naive.gained(p, w, a)); }
            case "fines": { int a = days(); return same("fines(" + p + "," + a + ")", () -> program.fines(p, a), () -> naive.fines(p, a)); }
            case "unanswered": return same("unanswered(" + p + ")", () -> program.unanswered(p), () -> naive.unanswered(p));
            case "even": return same("even()", () -> program.even(), () -> naive.even());
            case "poorest": return same("poorest(" + w + ")", () -> program.poorest(w), () -> naive.poorest(w));
            case "plan": return plan(p);
            case "planned": { int a = below(5); return same("planned(" + a + ")", () -> program.planned(a), () -> naive.planned(a)); }
            case "well": return well(p);
            case "exchange": { int a = days(); int i = random.nextInt(pairs + 2) - 1; return same("exchange(" + a + "," + i + ")", () -> program.exchange(a, i), () -> naive.exchange(a, i)); }
            case "see": return see(p, d, x);
            case "forget": program.forget(); naive.forget(); return null;
            case "falsely": return same("falsely()", () -> program.falsely(), () -> naive.falsely());
            case "did": return same("did(" + p + "," + d + ")", () -> program.did(p, d), () -> naive.did(p, d));
            case "morning": return same("morning(" + p + "," + d + "," + w + ")", () -> program.morning(p, d, w), () -> naive.morning(p, d, w));
            case "found": return same("found()", () -> program.found(), () -> naive.found());
            default: return otherCall(name, p, x, d, w);
        }
    }

    private String otherCall(String name, int p, int x, int d, int w) {
        switch (name) {
            case "compared": { int a = random.nextInt(5) - 1; return same("compared(" + a + ")", () -> program.compared(a), () -> naive.compared(a)); }
            case "best": return same("best()", () -> program.best(), () -> naive.best());
            case "delayed": return same("delayed()", () -> program.delayed(), () -> naive.delayed());
            case "harms": return same("harms()", () -> program.harms(), () -> naive.harms());
            case "game": return game(p, d, w);
            case "years": { int a = random.nextInt(); int n = days(); int b = below(3); return same("years(" + a + "," + n + "," + b + ")", () -> program.years(a, n, b), () -> naive.years(a, n, b)); }
            case "ring": return same("ring(" + x + ")", () -> program.ring(x), () -> naive.ring(x));
            case "idle": return same("idle(" + p + "," + w + ")", () -> program.idle(p, w), () -> naive.idle(p, w));
            case "waves": return same("waves(" + d + ")", () -> program.waves(d), () -> naive.waves(d));
            case "ruined": return same("ruined()", () -> program.ruined(), () -> naive.ruined());
            case "stop": return same("stop(" + p + ")", () -> program.stop(p), () -> naive.stop(p));
            case "swap": return same("swap(" + p + ")", () -> program.swap(p), () -> naive.swap(p));
            case "year": return same("year(" + p + ")", () -> program.year(p), () -> naive.year(p));
            case "spell": return same("spell(" + w + ")", () -> program.spell(w), () -> naive.spell(w));
            case "helps": return same("helps(" + x + ")", () -> program.helps(x), () -> naive.helps(x));
            case "image": told.append(" image()"); program.image(); naive.image(); return null;
            case "restore": return same("restore()", () -> program.restore(), () -> naive.restore());
            case "fault": return same("fault()", () -> program.fault(), () -> naive.fault());
            case "feed": { int[] a = {random.nextInt(), random.nextInt(), 0x64656564, 0x20302030, 0x3b0a2020}; return feed(a); }
            case "shores": { int a = random.nextInt(60) - 3; return same("shores(" + a + ")", () -> program.shores(a), () -> naive.shores(a)); }
            default: throw new IllegalStateException(name);
        }
    }

    private String plan(int p) {
        if (deeds > 5 && random.nextInt(3) > 0) {
            return null;
        }
        int most = random.nextBoolean() ? 30 : 100;
        int a = random.nextInt(15) == 0 ? odd() : random.nextInt(2 * most + 1) - most;
        return same("plan(" + p + "," + a + ")", () -> program.plan(p, a), () -> naive.plan(p, a));
    }

    private String well(int p) {
        int a = random.nextInt(10) == 0 ? random.nextInt(2) * 7 : 1 + random.nextInt(6);
        return same("well(" + p + "," + a + ")", () -> program.well(p, a), () -> naive.well(p, a));
    }

    private String see(int p, int d, int x) {
        int it = x;
        if (p >= 0 && p < pairs && d >= 0 && d < 100 && random.nextInt(4) > 0) {
            it = naive.does(p, 1, d);
        }
        int a = it;
        return same("see(" + p + "," + d + "," + a + ")", () -> program.see(p, d, a), () -> naive.see(p, d, a));
    }

    private String game(int p, int d, int w) {
        int o = below(pairs);
        int a = random.nextInt(12) == 0 ? odd() : 10 * Math.abs(below(deeds) % 12) + Math.abs(below(deeds) % 10);
        return same("game(" + p + "," + o + "," + d + "," + a + "," + w + ")",
                () -> program.game(p, o, d, a, w), () -> naive.game(p, o, d, a, w));
    }

    private String feed(int[] a) {
        return same("feed(" + a[0] + "," + a[1] + "," + a[2] + "," + a[3] + "," + a[4] + ")",
                () -> program.feed(a[0], a[1], a[2], a[3], a[4]),
                () -> naive.feed(a[0], a[1], a[2], a[3], a[4]));
    }

    private String same(String call, Supplier<Object> one, Supplier<Object> other) {
        told.append(' ').append(call);
        String got = answer(one);
        String due = answer(other);
        deeds = naive.count(0);
        pairs = naive.count(1);
        return got.equals(due) ? null : told + " answered " + got + ", due is " + due;
    }

    private static String answer(Supplier<Object> call) {
        try {
            return String.valueOf(call.get());
        } catch (RuntimeException thrown) {
            return thrown.getClass().getName();
        }
    }

    private String text() {
        // The tape may hold something already.
        String emptied = same("shores(0)", () -> program.shores(0), () -> naive.shores(0));
        if (emptied != null) {
            return emptied;
        }
        String text = randomText();
        if (random.nextInt(5) < 2) {
            text = spoiled(text);
        }
        if (text.length() > 700) {
            text = text.substring(0, 700);
        }
        told.append(" text[").append(text).append(']');
        StringBuilder padded = new StringBuilder(text);
        while (padded.length() % 20 != 0) {
            padded.append(' ');
        }
        for (int i = 0; i < padded.length(); i += 20) {
            int[] a = new int[5];
            for (int k = 0; k < 20; k++) {
                a[k / 4] = a[k / 4] << 8 | padded.charAt(i + k);
            }
            if (program.feed(a[0], a[1], a[2], a[3], a[4]) != naive.feed(a[0], a[1], a[2], a[3], a[4])) {
                return told + " fed";
            }
        }
        int size = text.length();
        String fault = same("shores(" + size + ")", () -> program.shores(size), () -> naive.shores(size));
        if (fault == null) {
            fault = same("fault()", () -> program.fault(), () -> naive.fault());
        }
        return fault;
    }

    private String randomText() {
        StringBuilder text = new StringBuilder();
        int toldDeeds = 1 + random.nextInt(8);
        int range = random.nextBoolean() ? 21 : 4;
        for (int i = 0; i < toldDeeds; i++) {
            boolean zero = i == 0 && random.nextBoolean();
            text.append("deed ").append(zero ? "0 0" : worth(range) + " " + worth(range)).append(';');
        }
        for (int i = 0; i < toldDeeds; i++) {
            if (random.nextInt(4) > 0) {
                text.append("opposite ").append(i).append(' ').append(random.nextInt(toldDeeds)).append(';');
            }
        }
        int ways = random.nextInt(7);
        for (int i = 0; i < ways; i++) {
            text.append("pair");
            for (int k = random.nextInt(random.nextBoolean() ? 8 : 3); k >= 0; k--) {
                text.append(' ').append(random.nextInt(toldDeeds));
            }
            text.append(";\n");
        }
        if (random.nextInt(4) > 0) {
            text.append("weather");
            for (int k = random.nextInt(10); k >= 0; k--) {
                text.append(' ').append(random.nextInt(3) == 0 ? 1 : 0);
            }
            text.append(';');
        }
        if (random.nextInt(4) > 0) {
            text.append("delay ").append(random.nextInt(4)).append(';');
        }
        for (int i = random.nextInt(4); i > 0; i--) {
            String treaty = "treaty " + expr(4 + random.nextInt(12)) + ";";
            if (text.length() + treaty.length() <= 700) {
                text.append(treaty);
            }
        }
        return text.toString();
    }

    private String worth(int range) {
        return (random.nextInt(3) == 0 ? "-" : "") + random.nextInt(range);
    }

    private String expr(int size) {
        if (size <= 1) {
            String[] parts = {"deed", "gain", "gift", "day", "pair", "again", "0", "1", "2", "3", "9999"};
            return parts[random.nextInt(parts.length)];
        }
        if (random.nextInt(4) == 0) {
            return "(" + expr(size - 1) + ")";
        }
        if (random.nextInt(6) == 0) {
            return "not " + expr(size - 1);
        }
        String[] signs = {" or ", " and ", "<", "=", "+", "-", "*", "/", "*"};
        int left = 1 + random.nextInt(size - 1);
        return expr(left) + signs[random.nextInt(signs.length)] + expr(size - left);
    }

    private String spoiled(String text) {
        StringBuilder spoiled = new StringBuilder(text);
        for (int i = 1 + random.nextInt(2); i > 0; i--) {
            int at = random.nextInt(spoiled.length() + 1);
            int kind = random.nextInt(4);
            if (kind == 0) {
                spoiled.insert(at, " " + SCRAPS[random.nextInt(SCRAPS.length)] + " ");
            } else if (kind == 1 && at < spoiled.length()) {
                spoiled.deleteCharAt(at);
            } else if (kind == 2) {
                spoiled.insert(at, SCRAPS[random.nextInt(SCRAPS.length)]);
            } else if (random.nextInt(4) == 0) {
                spoiled.setLength(at);
            }
        }
        return spoiled.toString();
    }
}
