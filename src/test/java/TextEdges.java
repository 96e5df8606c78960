import java.util.function.IntFunction;

/** The edges of what a text may tell, of its tokens, of treaties' values, and of faults. */
final class TextEdges {
    private static final String D = "deed 0 0;";

    private final Edges e;

    TextEdges(Edges edges) {
        e = edges;
    }

    void run() {
        e.under("## What it is", "## The public face");
        e.test("An object is used for at most 512 calls after it has been made", this::calls);
        e.under("## Terms", "==== 2.");
        deedsAndPairs();
        weatherDelayTreaties();
        tokens();
        grammar();
        values();
        faultPlaces();
        tooMuch();
        unknownAndTwice();
    }

    private void calls() {
        OppositeShores x = new OppositeShores();
        for (int i = 0; i < 510; i++) {
            x.delay(4 + i);
        }
        e.is("the 511th", x.count(11), 510);
        e.is("the 512th", x.delay(3), 1);
    }

    // ---- what is told

    private void deedsAndPairs() {
        e.test("DEEDS 0, 1 .. (at most 8):", () -> {
            e.is("none", Tell.told("").count(0), 0);
            OppositeShores x = Tell.told("deed 1 0;deed 2 0;deed 3 0;deed 4 0;deed 5 0;deed 6 0;deed 7 0;deed 8 0;");
            e.is("eight", x.count(0), 8);
            e.row("gain", i -> x.deed(i, 0), 1, 2, 3, 4, 5, 6, 7, 8);
            e.bad(D.repeat(9), 2, 72);
        });
        e.test("GAIN (-20 to 20) for who does it", () -> {
            OppositeShores x = Tell.told("deed 20 0;deed -20 0;pair 0;pair 1;delay 0;");
            e.is("most", x.deed(0, 0), 20);
            e.is("least", x.deed(1, 0), -20);
            e.is("most of all", x.gained(0, 0, 100), 2000);
            e.is("least of all", x.gained(1, 1, 100), -2000);
            e.bad("deed 21 0;", 2, 5);
            e.bad("deed -21 0;", 2, 6);
        });
        e.test("GIFT (-20 to 20) to the STORE of the shore on which it is done", () -> {
            OppositeShores x = Tell.told("deed 0 20;deed 0 -20;opposite 0 1;" + "pair 0;".repeat(6) + "delay 0;");
            e.is("most", x.deed(0, 1), 20);
            e.is("least", x.deed(1, 1), -20);
            e.is("most of all", x.store(0, 99), 12000);
            e.is("least of all", x.store(1, 99), -12000);
            e.bad("deed 0 21;", 2, 7);
            e.bad("deed 0 -21;", 2, 8);
        });
        e.test("its OPPOSITE (a DEED; without, itself)", () -> {
            OppositeShores x = Tell.told(D + D + D + "opposite 0 1;pair 2;");
            e.row("opposite", i -> x.deed(i, 2), 1, 1, 2);
            e.is("there he does the same", x.does(0, 1, 1), 2);
        });
        e.test("DEED 0 is to be idle.", () -> {
            OppositeShores x = Tell.told("deed 3 2;deed 0 0;opposite 0 1;pair 0;delay 3;");
            e.is("the idle gain", x.gained(0, 1, 3), 9);
            e.is("the idle give", x.store(1, 2), 6);
        });
        e.test("PAIRS 0, 1 .. (at most 6):", () -> {
            e.is("none", Tell.told(D).count(1), 0);
            OppositeShores x = Tell.told(D + D + "pair 0;pair 1;pair 0;pair 1;pair 0;pair 1;");
            e.is("six", x.count(1), 6);
            e.row("ways", i -> x.way(i, 0), 0, 1, 0, 1, 0, 1);
            e.bad(D + "pair 0;".repeat(7), 2, 51);
            fullObject();
        });
        e.test("the WAY of the one HERE (1 to 8 DEEDS).", () -> {
            e.is("one", Tell.told(D + "pair 0;").way(0, -1), 1);
            OppositeShores x = Tell.told(D + D + "pair 0 1 1 0 1 0 0 1;");
            e.is("eight", x.way(0, -1), 8);
            e.row("eight", i -> x.way(0, i), 0, 1, 1, 0, 1, 0, 0, 1);
            e.bad(D + "pair;", 1, 13);
            e.bad(D + "pair 0 0 0 0 0 0 0 0 0;", 2, 30);
        });
    }

    /** As much of all as there can be; nothing gains or gives anything. */
    private void fullObject() {
        OppositeShores x = Tell.told(D.repeat(8) + "pair 0 1 2 3 4 5 6 7;".repeat(6)
                + "weather 1 0 1 0 1 0 1 0 1 0;delay 3;treaty 1;treaty deed;treaty day;");
        for (int i = 0; i < 8; i++) {
            x.see(5, 99 - i, x.does(5, 1, 99 - i));
        }
        e.is("falsely", x.falsely(), 0);
        e.is("found", x.found(), 31);
        e.is("did", x.did(5, 99), 255);
        e.row("morning", i -> x.morning(5, 97, i), 0, 1);
        e.is("plan", x.plan(5, 0) + Edges.plan(x), "10");
        e.is("no plan", x.plan(5, 1) + Edges.plan(x), "-1");
        e.is("well", x.well(5, 6), 0);
        e.row("exchange", i -> x.exchange(100, i - 1), 0, 0, 1, 2, 3, 4, 5);
        e.is("stop", x.stop(5), -1);
        e.is("swap", x.swap(5), -1);
        e.is("helps", x.helps(7), 0);
        e.is("harms", x.harms(), -1);
        e.is("best", x.best(), -1);
        e.is("delayed", x.delayed(), 0);
        e.is("compared", x.compared(2), 0);
        e.is("even", x.even(), 0);
        e.is("poorest", x.poorest(1), 0);
        e.is("store", x.store(1, 99), 0);
        e.is("waves", x.waves(0), 63);
        e.is("ruined", x.ruined(), 0);
        e.is("ring", x.ring(7), 1);
        // Day 99's deed isn't answered: only what both do alike counts.
        e.row("game", i -> x.game(5, 4, 99, 76, i), 2, 1);
        e.row("years", i -> x.years(0, 4, i), 0, 0, 1);
        e.is("idle", x.idle(5, 0), 13);
    }

    private void weatherDelayTreaties() {
        e.test("WEATHER (1 to 10 numbers; 0 clear, 1 fog):", () -> {
            e.is("one", Tell.told("weather 1;").count(2), 1);
            OppositeShores x = Tell.told("weather 1 0 0 1 1 0 1 0 0 1;");
            e.is("ten", x.count(2), 10);
            e.row("fog", i -> x.fog(i) ? 1 : 0, 1, 0, 0, 1, 1, 0, 1, 0, 0, 1);
            e.bad("weather;", 1, 7);
            e.bad("weather 0 0 0 0 0 0 0 0 0 0 0;", 2, 28);
            e.bad("weather 2;", 2, 8);
        });
        e.test("that of DAY d is the (d MOD how many)-th; clear without.", () -> {
            OppositeShores x = Tell.told("weather 1 0 0;");
            e.row("three", i -> x.fog(i) ? 1 : 0, 1, 0, 0, 1, 0, 0, 1);
            e.is("day 98", x.fog(98), false);
            e.is("day 99", x.fog(99), true);
            OppositeShores y = Tell.told("weather 0 0 0 0 0 0 0 0 0 1;");
            e.is("day 89", y.fog(89), true);
            e.is("day 98", y.fog(98), false);
            e.is("day 99", y.fog(99), true);
            e.is("always", Tell.told("weather 1;").fog(99), true);
            OppositeShores z = Tell.told(D);
            e.row("without", i -> z.fog(i * 33) ? 1 : 0, 0, 0, 0, 0);
        });
        e.test("DELAY (0 to 3; 1 without).", () -> {
            e.is("least", Tell.told("delay 0;").count(3), 0);
            e.is("most", Tell.told("delay 3;").count(3), 3);
            e.is("without", Tell.told("").count(3), 1);
            e.is("without, behind another", without(), 1);
            e.bad("delay 4;", 2, 6);
        });
        e.test("TREATIES 0, 1 .. (at most 3): rules.", () -> {
            e.is("none", Tell.told("").count(4), 0);
            OppositeShores x = Tell.told(D + D + "opposite 0 1;pair 0;treaty 0;treaty day=0;treaty 1;delay 0;");
            e.is("three", x.count(4), 3);
            e.row("treaty 0", i -> x.does(0, 1, i), 0, 0);
            x.sign(1);
            e.row("treaty 1", i -> x.does(0, 1, i), 1, 0);
            x.sign(2);
            e.row("treaty 2", i -> x.does(0, 1, i), 1, 1);
            e.bad("treaty 1;".repeat(4), 2, 27);
            ofEachPair();
        });
    }

    /** Three treaties that six pairs don't share: each is looked at behind the others. */
    private void ofEachPair() {
        OppositeShores x = Tell.told(D + D + "opposite 0 1;" + "pair 0;".repeat(6) + "delay 0;"
                + "treaty pair=day;treaty pair+day=5;treaty day<pair;");
        for (int treaty : new int[] {0, 1, 2, 0, 1, 2}) {
            x.sign(treaty);
            for (int i = 0; i < 36; i++) {
                int pair = i / 6;
                int day = i % 6;
                boolean due = treaty == 0 ? pair == day : treaty == 1 ? pair + day == 5 : day < pair;
                e.is("treaty " + treaty + " of pair " + pair + " on " + day, x.does(pair, 1, day), due ? 1 : 0);
            }
        }
    }

    private static int without() {
        OppositeShores x = Tell.told("delay 3;");
        Tell.tell(x, D);
        return x.count(3);
    }

    // ---- tokens and grammar

    private void tokens() {
        e.test("A TEXT of at most 700 bytes tells it.", () -> {
            String text = D + " ".repeat(682) + "deed 7 7;";
            OppositeShores x = Tell.told(text);
            e.is("bytes", text.length(), 700);
            e.is("the last of them count", x.deed(1, 0), 7);
            String cut = text.substring(0, 699) + "#";
            e.bad(cut, 1, 699);
        });
        e.test("TOKENS: words (a .. z, the longest row)", () -> {
            e.fine("deed0 0;treaty day;treaty again;");
            e.bad("deeds 0 0;", 1, 0);
            e.bad("feed 0 0;", 1, 0);
            e.bad("dee d 0 0;", 1, 0);
            e.bad("treaty say;", 3, 7);
            e.bad("treaty dayday;", 3, 7);
            e.bad("treaty da;", 3, 7);
            e.bad("treaty a;", 3, 7);
            e.bad("treaty z;", 3, 7);
            // What stands just ahead of a and behind z, and capitals, is no letter.
            e.bad("treaty `;", 1, 7);
            e.bad("treaty {;", 1, 7);
            e.bad("treaty Day;", 1, 7);
            e.bad("treaty daY;", 3, 7);
            e.bad("treaty day{;", 1, 10);
        });
        e.test("NUMBERS (1 to 4 digits)", () -> {
            e.fine("deed 0 9;deed 0000 0019;treaty 0;treaty 9999;treaty 0001;");
            e.bad("treaty 00001;", 2, 7);
            e.bad("treaty 10000;", 2, 7);
            // What stands just ahead of 0 is the sign /, what stands behind 9 is nothing.
            e.bad("treaty 1:;", 1, 8);
            e.bad("treaty /;", 1, 7);
            e.is("1234 is a row", Tell.told(treaty("1234=1200+34")).does(0, 1, 0), 1);
            e.is("0034 is 34", Tell.told(treaty("0034=34")).does(0, 1, 0), 1);
        });
        e.test("signs ; ( ) + - * / < = ;", () -> {
            e.fine("treaty (1)+2-3*4/5<6;treaty 1=2;");
            for (char c : "!\"#$%&',.:>?@[\\]^_`{|}~".toCharArray()) {
                e.bad("treaty 1" + c + "1;", 1, 8);
            }
        });
        e.test("blanks (32, 10) between them count for nothing.", () -> {
            e.fine("");
            e.fine(" ");
            e.fine("\n");
            e.fine("\n deed \n-\n1\n- \n 2 ;\n\n");
            e.fine("treaty(1)and(2)or not(3);");
            e.bad("deed 1 2 3;", 1, 9);
            e.bad("pair0;", 3, 4);
            for (char c : new char[] {0, 1, 9, 11, 12, 13, 31, 127, 128, 160, 255}) {
                e.bad("deed" + c + "0 0;", 1, 4);
            }
        });
    }

    private void grammar() {
        e.test("In quotes is what stands there, [ ] perhaps, * any number of times, | one of some.", () -> {
            e.fine("deed 1 1;deed -1 1;deed 1 -1;deed -1 -1;");
            e.bad("'deed' 1 1;", 1, 0);
            e.bad("deed [-] 1 1;", 1, 5);
            // As many of each as a text has room for: 342 and 1, each in two bytes.
            e.fine("treaty " + "1+".repeat(342) + "1;");
            e.fine("treaty " + "1*".repeat(342) + "1;");
            e.fine("treaty " + "1or ".repeat(170) + "1;");
            e.fine("treaty " + "1and ".repeat(135) + "1;");
        });
        e.test("SHORES: LINE*.", () -> {
            e.fine("");
            e.fine("treaty 1;delay 0;weather 0;" + D + "pair 0;opposite 0 0;" + D);
            e.bad(";", 1, 0);
            e.bad(D + ";", 1, 9);
        });
        e.test("LINE: ('deed' ['-'] GAIN ['-'] GIFT | 'opposite' DEED DEED | 'pair' DEED DEED* "
                + "| 'weather' NUMBER NUMBER* | 'delay' NUMBER | 'treaty' EXPR) ';', all in capitals "
                + "but EXPR being NUMBERS", this::lines);
        e.test("(GAIN, GIFT 0 to 20, with '-' below 0)", () -> {
            OppositeShores x = Tell.told("deed -1 1;deed 1 - 1;deed - 20 -20;deed -0 -0;deed 20 20;");
            e.row("gain", i -> x.deed(i, 0), -1, 1, -20, 0, 20);
            e.row("gift", i -> x.deed(i, 1), 1, -1, -20, 0, 20);
            e.bad("deed --1 0;", 1, 6);
            e.bad("deed 0 --1;", 1, 8);
        });
        e.test("EXPR: AND ('or' AND)*. AND: NOT ('and' NOT)*.", () -> {
            holds("1 or 1 and 0", true);
            holds("0 and 1 or 1", true);
            holds("0 and (1 or 1)", false);
            e.bad("treaty 1 or;", 1, 11);
            e.bad("treaty 1 and;", 1, 12);
            e.bad("treaty 1 or and 1;", 3, 12);
        });
        e.test("NOT: 'not' NOT | SUM [('<' | '=') SUM].", () -> {
            holds("not 1=2", true);
            holds("(not 1)=2", false);
            holds("not 0 and 0", false);
            holds("1+1<3", true);
            e.bad("treaty 1<2<3;", 1, 10);
            e.bad("treaty 1=1=1;", 1, 10);
            e.bad("treaty 1 not 1;", 1, 9);
            e.bad("treaty 1<not 1;", 3, 9);
        });
        e.test("SUM: PRODUCT (('+' | '-') PRODUCT)*. PRODUCT: PART (('*' | '/') PART)*.", () -> {
            is("2+3*4", "14");
            is("2*3+4", "10");
            is("9-8/4", "7");
            e.bad("treaty -1;", 1, 7);
            e.bad("treaty 1--1;", 1, 9);
            e.bad("treaty 1*-1;", 1, 9);
            e.bad("treaty 1+;", 1, 9);
        });
        e.test("PART: NUMBER | VALUE | '(' EXPR ')'.", () -> {
            is("(2+3)*4", "20");
            is("(1 or 0)+(1<2)", "2");
            e.bad("treaty ();", 1, 8);
            e.bad("treaty (1;", 1, 9);
            e.bad("treaty 1);", 1, 8);
            e.bad("treaty (1));", 1, 10);
            e.bad("treaty (1)1;", 1, 10);
        });
    }

    private void lines() {
        e.bad("deed;", 1, 4);
        e.bad("deed 1;", 1, 6);
        e.bad("deed 1 2 3;", 1, 9);
        e.bad("deed 1 2 -;", 1, 9);
        e.bad("deed day 2;", 1, 5);
        e.bad(D + "opposite;", 1, 17);
        e.bad(D + "opposite 0;", 1, 19);
        e.bad(D + "opposite 0 0 0;", 1, 22);
        e.bad(D + "opposite -0 0;", 1, 18);
        e.bad(D + "pair;", 1, 13);
        e.bad(D + "pair 0 -0;", 1, 16);
        e.bad("weather;", 1, 7);
        e.bad("weather 0 -1;", 1, 10);
        e.bad("delay;", 1, 5);
        e.bad("delay 1 1;", 1, 8);
        e.bad("delay -1;", 1, 6);
        e.bad("treaty;", 1, 6);
        e.bad("treaty 1 1;", 1, 9);
        e.bad("deed 0 0,", 1, 8);
        e.bad("deed 0 0 deed 0 0;", 1, 9);
        e.bad("0 0;", 1, 0);
        e.bad("gain 0 0;", 1, 0);
        e.bad("shores;", 1, 0);
    }

    // ---- what a treaty gives

    /** By this treaty the one there does 1 on those days on which it gives more than 0. */
    private static String treaty(String expr) {
        return D + D + "opposite 0 1;pair 0;delay 0;treaty " + expr + ";";
    }

    private void holds(String expr, boolean due) {
        e.is(expr, Tell.told(treaty(expr)).does(0, 1, 0) == 1, due);
    }

    private void is(String expr, String due) {
        holds("(" + expr + ")=" + due, true);
    }

    private void values() {
        e.test("From the left;", () -> {
            is("9-4-3", "2");
            is("9-4+3", "8");
            is("8/4/2", "1");
            is("7/2*2", "6");
            is("7*2/4", "3");
        });
        e.test("ints that wrap,", () -> {
            // 5,998,800,060 becomes 1,703,832,764.
            is("9999*9999*60/9999/9999", "17");
            // 2,999,400,030 becomes less than 0.
            holds("9999*9999*30<0", true);
            // 2,099,580,021 and 99,980,001, less than 0 both, too.
            holds("9999*9999*21+9999*9999<0", true);
            holds("0<0-9999*9999*21-9999*9999", true);
            // 2 ** 31 becomes -2 ** 31, which by -1 is itself again, and less 1 is the most.
            holds("4096*8192*64<0", true);
            holds("4096*8192*64/(0-1)<0", true);
            holds("0<4096*8192*64-1", true);
            is("4096*8192*128", "0");
        });
        e.test("/ cut down to 0, by 0 gives 0;", () -> {
            is("7/2", "3");
            is("(0-7)/2", "0-3");
            is("7/(0-2)", "0-3");
            is("(0-7)/(0-2)", "3");
            is("1/2", "0");
            is("(0-1)/2", "0");
            is("5/0", "0");
            is("0/0", "0");
            is("(0-5)/0", "0");
            is("1+5/0", "1");
            is("5/(day-day)*2", "0");
        });
        e.test("tests, not, and, or are 1 or 0 (what isn't 0 holds).", () -> {
            is("1<2", "1");
            is("2<2", "0");
            is("3<2", "0");
            is("(0-1)<0", "1");
            is("2=2", "1");
            is("2=3", "0");
            is("not 0", "1");
            is("not 1", "0");
            is("not 2", "0");
            is("not (0-1)", "0");
            is("2 and 4", "1");
            is("1 and 0", "0");
            is("0 and 0", "0");
            is("(0-1) and (0-2)", "1");
            is("0 or 4", "1");
            is("2 or 4", "1");
            is("0 or 0", "0");
            is("(0-1) or 0", "1");
        });
        e.test("VALUES of a DEED that was done HERE: 'deed' (its number), 'gain', 'gift', 'day' "
                + "(on which it was done), 'pair',", this::eachValue);
        e.test("'again' (1, if the one HERE did the same on the DAY ahead, else 0).", () -> {
            OppositeShores x = Tell.told(D + D + "deed 0 0;opposite 0 2;opposite 1 2;pair 1 0 0 1;pair 1;"
                    + "delay 0;treaty again;");
            // Here 1 0 0 1 1 0 0 1 1: the fifth is the same as the last of the way.
            e.row("four deeds", i -> x.does(0, 1, i), 0, 0, 2, 0, 2, 0, 2, 0, 2);
            e.row("one deed", i -> x.does(1, 1, i), 0, 2, 2);
            e.is("day 99", x.does(1, 1, 99), 2);
            holds("again=0", true);
            OppositeShores y = Tell.told(D + D + "opposite 0 1;pair 0;delay 0;treaty again=1;");
            e.row("1", i -> y.does(0, 1, i), 0, 1, 1);
        });
    }

    private void eachValue() {
        String text = "deed 0 0;deed 20 -20;deed -20 20;deed 0 0;opposite 0 3;opposite 1 3;opposite 2 3;"
                + "pair 0 1 2;pair 2 2 2;delay 2;treaty ";
        e.row("deed=0", given(text + "deed=0;", 0), 0, 0, 3, 0, 0, 3);
        e.row("deed=2", given(text + "deed=2;", 0), 0, 0, 0, 0, 3, 0);
        e.row("gain=20", given(text + "gain=20;", 0), 0, 0, 0, 3, 0, 0);
        e.row("gain=0-20", given(text + "gain=0-20;", 0), 0, 0, 0, 0, 3, 0);
        e.row("gift=20", given(text + "gift=20;", 0), 0, 0, 0, 0, 3, 0);
        e.row("gift=0-20", given(text + "gift=0-20;", 0), 0, 0, 0, 3, 0, 0);
        // On day 0 it was done, on day 2 it is answered.
        e.row("day=0", given(text + "day=0;", 0), 0, 0, 3, 0, 0, 0);
        e.row("day=3", given(text + "day=3;", 0), 0, 0, 0, 0, 0, 3);
        e.is("day=97", Tell.told(text + "day=97;").does(0, 1, 99), 3);
        e.row("pair=0", given(text + "pair=0;", 0), 0, 0, 3, 3, 3, 3);
        e.row("pair=0", given(text + "pair=0;", 1), 0, 0, 0, 0, 0, 0);
        e.row("pair=1", given(text + "pair=1;", 1), 0, 0, 3, 3, 3, 3);
        e.bad("treaty pairs;", 3, 7);
        e.bad("treaty store;", 3, 7);
    }

    private static IntFunction<Object> given(String text, int pair) {
        OppositeShores x = Tell.told(text);
        return day -> x.does(pair, 1, day);
    }

    // ---- faults

    private void faultPlaces() {
        e.test("FAULTS, the first along the text, at a TOKEN's first byte,", () -> {
            e.bad("weather 2;deed;", 2, 8);
            e.bad(D + "pair 1;#", 3, 14);
            e.bad("weather 0;weather 0;#", 5, 10);
            e.bad("   #", 1, 3);
            e.bad("deed    21 0;", 2, 8);
            e.bad("deed 0 0;\n\n deeds 0 0;", 1, 12);
            e.bad("deed -  21 0;", 2, 8);
        });
        e.test("of one TOKEN the least:", () -> {
            // The ninth of a way, which isn't told ahead, either: 2 and 3.
            e.bad(D + "pair 0 0 0 0 0 0 0 0 1;", 2, 30);
            // Five digits, not told ahead: 2 and 3; which has one already: 2 and 4.
            e.bad(D + "opposite 12345 0;", 2, 18);
            e.bad(D + "opposite 0 0;opposite 00000 0;", 2, 31);
            // A word that is no value, too deep: 2 and 3; the seventh 'not', which is no value.
            e.bad("treaty ((((((sun", 2, 13);
            e.bad("treaty not not not not not not not", 2, 31);
            // Five digits where no number can stand: 1 and 2.
            e.bad("deed 0 0 12345;", 1, 9);
            e.bad("treaty 1 12345;", 1, 9);
            // What can't begin an expression, too deep: 1 and 2.
            e.bad("treaty (((((()", 1, 13);
        });
        e.test("1 a TOKEN that can't stand there, or is none", () -> {
            e.bad("#", 1, 0);
            e.bad("deed # 0;", 1, 5);
            e.bad("deed 0 0;#", 1, 9);
            e.bad("treaty 1 # 1;", 1, 9);
            e.bad("treaty >;", 1, 7);
            e.bad("deed ( 0;", 1, 5);
            e.bad("treaty 1 pair 0;", 1, 9);
            e.bad("and", 1, 0);
        });
        e.test("(the text's length where it ends too soon);", this::cutAnywhere);
    }

    /** A text that is cut behind a line is fine; behind any other token it ends too soon. */
    private void cutAnywhere() {
        String text = "deed - 1 - 2 ; opposite 0 0 ; pair 0 0 ; weather 0 1 ; delay 2 ; "
                + "treaty not ( day + 1 ) * 2 < gain / 3 - 1 and again or 0 ;";
        e.fine(text);
        for (int i = 1; i < text.length(); i++) {
            if (text.charAt(i) == ' ') {
                boolean whole = text.charAt(i - 1) == ';';
                e.bad(text.substring(0, i), whole ? 0 : 1, whole ? -1 : i);
                e.bad(text.substring(0, i) + " \n ", whole ? 0 : 1, whole ? -1 : i + 3);
            }
        }
        e.bad("deed", 1, 4);
        String full = "treaty " + "1+".repeat(346) + "1";
        e.is("a full text", full.length(), 700);
        e.bad(full, 1, 700);
    }

    private void tooMuch() {
        e.test("2 one that can, but is too much: a NUMBER of 5 digits or more,", () -> {
            e.bad("deed 00000 0;", 2, 5);
            e.bad("deed 0 00000;", 2, 7);
            e.bad("deed -00000 0;", 2, 6);
            e.bad(D + "opposite 00000 0;", 2, 18);
            e.bad(D + "opposite 0 00000;", 2, 20);
            e.bad(D + "pair 00000;", 2, 14);
            e.bad(D + "pair 0 00000;", 2, 16);
            e.bad("weather 00000;", 2, 8);
            e.bad("weather 0 00001;", 2, 10);
            e.bad("delay 00000;", 2, 6);
            e.bad("treaty 00000;", 2, 7);
            e.bad("treaty 1+00000;", 2, 9);
            e.bad("treaty 99999999999999999999;", 2, 7);
            e.fine("deed 0000 0000;opposite 0000 0000;pair 0000;weather 0001;delay 0003;treaty 0000;");
        });
        e.test("or (not in an EXPR) not as told,", () -> {
            e.bad("deed 9999 0;", 2, 5);
            e.bad("deed 0 9999;", 2, 7);
            e.bad("weather 0 2;", 2, 10);
            e.bad("weather 9999;", 2, 8);
            e.bad("delay 9999;", 2, 6);
            e.fine("treaty 21;treaty 9999*9999;");
        });
        e.test("the first TOKEN of the 9th DEED,", () -> {
            e.fine(D.repeat(8));
            e.bad(D.repeat(8) + "deed 0 0;", 2, 72);
            e.bad(D.repeat(8) + "deed", 2, 72);
            e.bad(D.repeat(8) + "deed #", 2, 72);
            e.bad(D.repeat(8) + "delay", 1, 77);
        });
        e.test("the 7th PAIR,", () -> {
            e.fine(D + "pair 0;".repeat(6));
            e.bad(D + "pair 0;".repeat(6) + "pair 0;", 2, 51);
            e.bad(D + "pair 0;".repeat(6) + "pair 1;", 2, 51);
            e.bad(D + "pair 0;".repeat(6) + "pair", 2, 51);
        });
        e.test("the 4th TREATY,", () -> {
            e.fine("treaty 1;".repeat(3));
            e.bad("treaty 1;".repeat(3) + "treaty 1;", 2, 27);
            e.bad("treaty 1;".repeat(3) + "treaty", 2, 27);
        });
        e.test("the 9th DEED of a WAY,", () -> {
            e.fine(D + "pair 0 0 0 0 0 0 0 0;");
            e.bad(D + "pair 0 0 0 0 0 0 0 0 0;", 2, 30);
            e.bad(D + "pair 0;pair 0 0 0 0 0 0 0 0 0", 2, 37);
            e.bad(D + "pair 0 0 0 0 0 0 0 0 -", 1, 30);
        });
        e.test("the 11th number of the WEATHER,", () -> {
            e.fine("weather 0 0 0 0 0 0 0 0 0 1;");
            e.bad("weather 0 0 0 0 0 0 0 0 0 1 1;", 2, 28);
            e.bad("weather 0 0 0 0 0 0 0 0 0 1 9", 2, 28);
            e.bad("weather 0 0 0 0 0 0 0 0 0 1 -", 1, 28);
        });
        e.test("of an EXPR within 6 others (a NUMBER, any word, a parenthesis),", () -> {
            e.fine("treaty (((((1)))));");
            e.fine("treaty 1+(2*(3-(4/(5<(6)))));");
            e.bad("treaty ((((((1))))));", 2, 13);
            e.bad("treaty ((((((day))))));", 2, 13);
            e.bad("treaty ((((((not 1))))));", 2, 13);
            e.bad("treaty ((((((or", 2, 13);
            e.bad("treaty (((((((1)))))));", 2, 13);
            e.bad("treaty ((((((;", 1, 13);
            e.bad("treaty ((((((+", 1, 13);
            e.bad("treaty ((((((#", 1, 13);
            e.bad("treaty ((((((", 1, 13);
            e.bad("treaty 1+(2*(3-(4/(5<(6 and(7))))));", 2, 28);
            // Side by side they are within none.
            e.fine("treaty (1)+(2)+(3)+(4)+(5)+(6)+(7);");
            e.fine("treaty (((((1)))))+(((((1)))));");
        });
        e.test("the seventh 'not' side by side;", () -> {
            e.fine("treaty not not not not not not 1;");
            e.bad("treaty not not not not not not not 1;", 2, 31);
            e.bad("treaty 1 and not not not not not not not", 2, 37);
            e.bad("treaty (not not not not not not not", 2, 32);
            e.fine("treaty not not not not not not (not not not not not not 1);");
            e.fine("treaty not not not not not not 1 and not 1 or not not not not not not 1;");
        });
    }

    private void unknownAndTwice() {
        e.test("3 any word where a PART must stand that is no VALUE,", () -> {
            for (String ahead : new String[] {"", "(", "not ", "1+", "1-", "1*", "1/", "1<", "1=", "1 and ", "1 or "}) {
                e.bad("treaty " + ahead + "sun;", 3, 7 + ahead.length());
                e.bad("treaty " + ahead + "or 1;", 3, 7 + ahead.length());
                e.bad("treaty " + ahead + "weather;", 3, 7 + ahead.length());
            }
            e.bad("treaty 1+not 1;", 3, 9);
            e.bad("treaty 1 sun;", 1, 9);
        });
        e.test("a DEED that isn't told ahead;", () -> {
            e.bad("opposite 0 0;", 3, 9);
            e.bad("pair 0;", 3, 5);
            e.fine(D + D + "opposite 1 1;pair 1;");
            e.bad(D + D + "opposite 2 0;", 3, 27);
            e.bad(D + D + "opposite 0 2;", 3, 29);
            e.bad(D + D + "pair 2;", 3, 23);
            e.bad(D + D + "pair 0 1 2;", 3, 27);
            e.bad(D + "pair 1;" + D, 3, 14);
            e.bad(D + "opposite 0 1;" + D, 3, 20);
            e.bad(D.repeat(8) + "pair 8;", 3, 77);
            e.bad(D + "pair 9999;", 3, 14);
        });
        e.test("4 the first DEED of an 'opposite' that has one told already;", () -> {
            e.fine(D + D + "opposite 0 1;opposite 1 1;");
            e.bad(D + D + "opposite 0 1;opposite 0 1;", 4, 40);
            e.bad(D + D + "opposite 0 0;opposite 0 1;", 4, 40);
            e.bad(D + D + "opposite 1 0;opposite 1", 4, 40);
            // Itself without one being told is none that is told.
            e.fine(D + D + "opposite 0 1;opposite 1 0;");
        });
        e.test("5 a second 'weather', 'delay'.", () -> {
            e.fine("weather 0;delay 0;");
            e.bad("weather 0;weather 0;", 5, 10);
            e.bad("weather 0;weather", 5, 10);
            e.bad("delay 0;delay 0;", 5, 8);
            e.bad("delay 1;delay", 5, 8);
            e.bad("weather 0;delay 0;" + D + "weather 0;", 5, 27);
            e.bad("delay 0;weather 0;" + D + "delay 0;", 5, 27);
        });
    }
}
