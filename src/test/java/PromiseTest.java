/**
 * One method for each promise (FaultTest has the faults of promises 3 and 4). All answers that are
 * due were found by hand from the document.
 */
public final class PromiseTest {
    private static final Tell T = new Tell("PromiseTest");

    /**
     * Pair 0 there: 0 2 0 0 0 2 | 2 2 0 0 0 2 | 2 2 0 0 0 2 .. (fog on days 2, 5, 8 ..).
     * Pair 1 there: 0 1 1 1 1 1 .. (on fog ahead of each deed 2, he does 1 again).
     */
    private static final String PLAIN = "deed 0 0;deed 3 5;deed -2 -4;deed 6 1;"
            + "opposite 1 2;opposite 2 1;opposite 3 0;pair 1 3;pair 2 2 1;weather 0 0 1;delay 1;"
            + "treaty 1;treaty not deed=3;";

    /** To be idle is worth something; there: 0 (fog on day 0), then 1 for ever. */
    private static final String NO_DELAY =
            "deed 1 2;deed 4 -3;opposite 0 1;pair 0 1 0;weather 1 0;delay 0;";

    /** Pair 0 gains nothing there by deed 0, the others gain 5 by it, and 1 by deed 2. */
    private static final String THREE = "deed 0 0;deed 5 0;deed 1 0;opposite 0 1;opposite 1 0;"
            + "pair 0;pair 1;pair 2;delay 0;treaty not (pair=0 and deed=0);";

    public static void main(String[] args) {
        newObject();
        feed();
        shores();
        shoresTwice();
        fault();
        count();
        deed();
        way();
        fog();
        does();
        treatiesInForce();
        must();
        store();
        change();
        turn();
        delay();
        sign();
        shirk();
        undo();
        gained();
        fines();
        unanswered();
        even();
        poorest();
        plan();
        planned();
        well();
        exchange();
        see();
        forget();
        falsely();
        did();
        morning();
        found();
        compared();
        best();
        delayed();
        harms();
        game();
        years();
        ring();
        idle();
        waves();
        ruined();
        stop();
        swap();
        year();
        spell();
        helps();
        image();
        restore();
        T.end();
    }

    private static void newObject() {
        OppositeShores x = new OppositeShores();
        T.row("1 count", x::count, 0, 0, 0, 1, 0, -1, 0, 0, 0, 0, 0, 0, 0);
        T.is("1 fault", x.fault(), -1);
        T.none("1 no deeds", () -> x.deed(0, 0));
        T.none("1 no pairs", () -> x.way(0, -1));
        T.is("1 even", x.even(), 0);
        T.is("1 NONE", OppositeShores.NONE, -1);
    }

    private static void feed() {
        OppositeShores x = new OppositeShores();
        for (int i = 1; i <= 35; i++) {
            T.is("2 feed", x.feed(0x20202020, 0x20202020, 0x20202020, 0x20202020, 0x20202020), 20 * i);
        }
        T.is("2 too much", x.feed(1, 2, 3, 4, 5), -1);
        T.is("2 none came", x.count(9), 700);
        T.is("2 all blank", x.shores(700), 0);
        // 'd' 'e' 'e' 'd', ' ' '-' '1' ' ', '2' ';' and 0xff, 0x80 behind.
        T.is("2 highest first", x.feed(0x64656564, 0x202d3120, 0x323bff80, -1, Integer.MIN_VALUE), 20);
        T.is("2 first ten bytes", x.shores(10), 0);
        T.is("2 gain", x.deed(0, 0), -1);
        T.is("2 gift", x.deed(0, 1), 2);
    }

    private static void shores() {
        OppositeShores x = Tell.told(PLAIN);
        x.delay(2);
        x.shirk(1, true);
        x.see(0, 0, 0);
        x.image();
        x.plan(0, 5);
        Tell.feed(x, "deed 9 9;");
        T.illegal("3 not so many", () -> x.shores(21));
        T.illegal("3 below 0", () -> x.shores(-1));
        T.is("3 nothing changed", x.count(9), 20);
        T.is("3 fault at 5", x.shores(6), 1);
        T.is("3 tape is empty", x.count(9), 0);
        T.row("3 all stays", x::count, 4, 2, 3, 2, 2, 0, 2, 2, 1, 0, 1, 0, 0);
        T.is("3 row stays", x.planned(0), 2);
        T.is("3 image stays", x.restore(), true);
        T.is("3 ways stay", x.way(1, -1), 3);
        x.turn(7);
        T.is("3 anew", Tell.tell(x, "deed 1 1;pair 0;"), 0);
        T.row("3 all anew", x::count, 1, 1, 0, 1, 0, -1, 0, 0, 0, 0, 1, 1, 0);
        T.none("3 row is gone", () -> x.planned(0));
        T.is("3 image is gone", x.restore(), false);
        T.is("3 acts are gone", x.undo(), -1);
        T.is("3 opposite of itself", x.deed(0, 2), 0);
        T.is("3 nothing at all", x.shores(0), 0);
        T.is("3 no deeds", x.count(0), 0);
    }

    /** Nothing of a text is left when another is told. */
    private static void shoresTwice() {
        OppositeShores x = Tell.told("deed 0 0;deed 1 1;opposite 0 1;pair 0 0;weather 1;delay 0;"
                + "treaty 0;treaty 0;");
        T.row("3 first", i -> x.does(0, 1, i), 0, 0, 0);
        Tell.tell(x, "deed 0 0;deed 1 1;opposite 0 1;pair 0;weather 0 0;delay 2;treaty 1;");
        T.row("3 second", i -> x.does(0, 1, i), 0, 0, 1);
        T.is("3 even", x.even(), 0);
        T.is("3 poorest", x.poorest(1), 0);
        T.row("3 counts", x::count, 2, 1, 2, 2, 1, 0);
        Tell.tell(x, "deed 0 0;deed 0 2;opposite 1 0;opposite 0 1;pair 0;treaty day=1;");
        T.row("3 third", i -> x.does(0, 1, i), 0, 0, 1, 0);
        T.row("3 counts", x::count, 2, 1, 0, 1, 1, 0);
        x.delay(0);
        T.row("3 stores", i -> x.store(1, i), 0, 2, 2);
        T.is("3 even", x.even(), 0);
    }

    private static void fault() {
        OppositeShores x = new OppositeShores();
        Tell.tell(x, "deed 0 0;pair 1;");
        T.is("4 place", x.fault(), 14);
        T.illegal("4 refused", () -> x.shores(1));
        T.is("4 still", x.fault(), 14);
        Tell.tell(x, "deed 0 ");
        T.is("4 the end", x.fault(), 7);
        Tell.tell(x, "deed 0 0;");
        T.is("4 none", x.fault(), -1);
    }

    private static void count() {
        OppositeShores x = Tell.told(PLAIN);
        x.shirk(1, true);
        x.sign(1);
        x.see(0, 1, 2);
        Tell.tell(x, "a");
        Tell.tell(x, "b");
        x.turn(-1);
        for (int i = 0; i < 10; i++) {
            x.see(1, 1, 1);
        }
        x.feed(0, 0, 0, 0, 0);
        T.row("5 count", x::count, 4, 2, 3, 1, 2, 1, 2, 2, 8, 20, 2, 1, 3);
        T.none("5 what 13", () -> x.count(13));
        T.none("5 what -1", () -> x.count(-1));
        T.none("5 what", () -> x.count(Integer.MIN_VALUE));
    }

    private static void deed() {
        OppositeShores x = Tell.told(PLAIN);
        T.row("6 gain", i -> x.deed(i, 0), 0, 3, -2, 6);
        T.row("6 gift", i -> x.deed(i, 1), 0, 5, -4, 1);
        T.row("6 opposite", i -> x.deed(i, 2), 0, 2, 1, 0);
        T.row("6 mutual", i -> x.deed(i, 3), 1, 1, 1, 0);
        T.none("6 deed 4", () -> x.deed(4, 0));
        T.none("6 deed -1", () -> x.deed(-1, 0));
        T.none("6 what 4", () -> x.deed(0, 4));
        T.none("6 what -1", () -> x.deed(0, -1));
    }

    private static void way() {
        OppositeShores x = Tell.told(PLAIN);
        T.row("7 way", i -> x.way(1, i - 1), 3, 2, 2, 1);
        T.none("7 behind", () -> x.way(1, 3));
        T.none("7 ahead", () -> x.way(1, -2));
        T.none("7 pair 2", () -> x.way(2, -1));
        T.none("7 pair -1", () -> x.way(-1, -1));
    }

    private static void fog() {
        OppositeShores x = Tell.told(PLAIN);
        T.row("8 fog", i -> x.fog(i) ? 1 : 0, 0, 0, 1, 0, 0, 1);
        T.is("8 day 98", x.fog(98), true);
        T.is("8 day 99", x.fog(99), false);
        T.none("8 day 100", () -> x.fog(100));
        T.none("8 day -1", () -> x.fog(-1));
        T.is("8 clear without", Tell.told("deed 0 0;").fog(3), false);
    }

    private static void does() {
        OppositeShores x = Tell.told(PLAIN);
        T.row("9 here", i -> x.does(0, 0, i), 1, 3, 1, 3);
        T.row("9 there", i -> x.does(0, 1, i), 0, 2, 0, 0, 0, 2, 2, 2, 0, 0, 0, 2, 2);
        T.row("9 there", i -> x.does(1, 1, i), 0, 1, 1, 1, 1, 1, 1, 1);
        T.row("9 day 90 on", i -> x.does(0, 1, 90 + i), 2, 2, 0, 0, 0, 2, 2, 2, 0, 0);
        T.none("9 side 2", () -> x.does(0, 2, 0));
        T.none("9 side -1", () -> x.does(0, -1, 0));
        T.none("9 pair", () -> x.does(2, 0, 0));
        T.none("9 day", () -> x.does(0, 0, 100));
        OppositeShores y = Tell.told(NO_DELAY);
        T.row("9 fog on day 0", i -> y.does(0, 1, i), 0, 1, 1, 1, 1);
        OppositeShores z = Tell.told("deed 0 0;deed 1 1;opposite 0 1;pair 0;delay 3;");
        T.row("9 delay 3", i -> z.does(0, 1, i), 0, 0, 0, 1, 1);
    }

    /** By which value of a treaty the contrary is done: days 0 to 5, no delay, deeds 1 1 0 2 2 1. */
    private static void treatiesInForce() {
        treaty("1", 3, 3, 3, 3, 3, 3);
        treaty("0", 0, 0, 0, 0, 0, 0);
        treaty("0-1", 0, 0, 0, 0, 0, 0);
        treaty("deed=2", 0, 0, 0, 3, 3, 0);
        treaty("gain<0", 0, 0, 0, 3, 3, 0);
        treaty("gift=7", 3, 3, 0, 0, 0, 3);
        treaty("day", 0, 3, 3, 3, 3, 3);
        treaty("day-2", 0, 0, 0, 3, 3, 3);
        treaty("2-day-1", 3, 0, 0, 0, 0, 0);
        treaty("day/2/2", 0, 0, 0, 0, 3, 3);
        treaty("8/day/3", 0, 3, 3, 0, 0, 0);
        treaty("1+0*day", 3, 3, 3, 3, 3, 3);
        treaty("0-day/2=0", 3, 3, 0, 0, 0, 0);
        treaty("(0-3)/2=0-1", 3, 3, 3, 3, 3, 3);
        treaty("(0-3)/2=0-2", 0, 0, 0, 0, 0, 0);
        treaty("5/(day-1)=0", 0, 3, 0, 0, 0, 0);
        treaty("pair", 0, 0, 0, 0, 0, 0);
        treaty("pair=0", 3, 3, 3, 3, 3, 3);
        treaty("again", 0, 3, 0, 0, 3, 0);
        treaty("not again", 3, 0, 3, 3, 0, 3);
        treaty("not not (0-5)", 3, 3, 3, 3, 3, 3);
        treaty("not 0-5", 0, 0, 0, 0, 0, 0);
        treaty("again or day<1", 3, 3, 0, 0, 3, 0);
        treaty("deed=1 and again", 0, 3, 0, 0, 0, 0);
        treaty("day=5 or day=4 and again or 0", 0, 0, 0, 0, 3, 3);
        treaty("(day=5 or day=4) and again", 0, 0, 0, 0, 3, 0);
        treaty("(0-1) and (0-1)", 3, 3, 3, 3, 3, 3);
        treaty("(0-1) or 0", 3, 3, 3, 3, 3, 3);
        // -1027349969 by 3, 2, 4, each wrapped: 1212917389, -2054699938, 185567420.
        treaty("9999*9999*9999*(deed+2)", 3, 3, 0, 3, 3, 3);
        treaty("(1 and 9)=1", 3, 3, 3, 3, 3, 3);
        treaty("(0 or 9)=1", 3, 3, 3, 3, 3, 3);
        treaty("(4<9)=1", 3, 3, 3, 3, 3, 3);
        treaty("(9=9)=1", 3, 3, 3, 3, 3, 3);
        treaty("(not 0)=1", 3, 3, 3, 3, 3, 3);
        treaty("(not 9)=0", 3, 3, 3, 3, 3, 3);
        treaty("again=1", 0, 3, 0, 0, 3, 0);
        treaty("1<day=0", -1);
        treaty("(1<day)=0", 3, 3, 0, 0, 0, 0);
        treaty("1=deed+0", 3, 3, 0, 0, 0, 3);
    }

    private static void treaty(String expr, int... due) {
        OppositeShores x = new OppositeShores();
        String text = "deed 0 0;deed 4 7;deed -1 2;deed 0 0;opposite 0 3;opposite 1 3;opposite 2 3;"
                + "pair 1 1 0 2 2 1;delay 0;treaty " + expr + ";";
        int fault = Tell.tell(x, text);
        if (due.length == 1) {
            T.is("9 fault of " + expr, fault, 1);
        } else {
            T.is("9 no fault of " + expr, fault, 0);
            T.row("9 treaty " + expr, i -> x.does(0, 1, i), due);
        }
    }

    private static void must() {
        OppositeShores x = Tell.told(PLAIN);
        T.row("10 must", i -> x.must(0, i), -1, 2, 0, 0, 0, 2, 2, 2, 0);
        x.sign(1);
        // Now he is free for deed 3 (days 1, 3), and idle.
        T.row("10 free", i -> x.must(0, i), -1, 2, -1, 0, -1, 2, 2);
        x.shirk(0, true);
        T.row("10 shirker", i -> x.must(0, i), -1, 2, -1, 0, -1, 2, 0, 2);
        T.is("10 fog on day 0", Tell.told(NO_DELAY).must(0, 0), 0);
        T.none("10 pair", () -> x.must(2, 0));
        T.none("10 day", () -> x.must(0, -1));
    }

    private static void store() {
        OppositeShores x = Tell.told(PLAIN);
        // Here 1 3 1 3 and 2 2 1 2: gifts 5 1 5 1 and -4 -4 5 -4. There 0 2 0 0 and 0 1 1 1.
        T.row("11 here", i -> x.store(0, i), 1, -2, 8, 5);
        T.row("11 there", i -> x.store(1, i), 0, 1, 6, 11);
        OppositeShores y = Tell.told(NO_DELAY);
        T.row("11 gifts of the idle", i -> y.store(1, i), 2, -1, -4);
        T.is("11 day 99", y.store(1, 99), 2 - 99 * 3);
        T.none("11 side", () -> x.store(2, 0));
        T.none("11 side", () -> x.store(-1, 0));
        T.none("11 day", () -> x.store(0, 100));
    }

    private static void change() {
        OppositeShores x = Tell.told(PLAIN);
        T.is("12 as it was", x.change(0, 1, 2), 3);
        T.is("12 as it is", x.way(0, 1), 2);
        T.row("12 from day 0 on", i -> x.does(0, 1, i), 0, 2, 1, 1, 1);
        T.is("12 the same", x.change(0, 1, 2), 2);
        T.is("12 acts", x.count(7), 2);
        T.is("12 no place", x.change(0, 2, 1), -1);
        T.is("12 no place", x.change(0, -1, 1), -1);
        T.is("12 refused", x.count(11), 2);
        T.none("12 pair", () -> x.change(2, 9, 1));
        T.none("12 deed", () -> x.change(0, 9, 4));
        T.is("12 refused still", x.count(11), 2);
        T.is("12 other pair", x.way(1, 1), 2);
    }

    private static void turn() {
        OppositeShores x = Tell.told(PLAIN);
        T.is("13 clear then", x.turn(2), 0);
        T.is("13 day 5", x.fog(5), false);
        T.is("13 fog then", x.turn(0), 1);
        T.is("13 day 3", x.fog(3), true);
        T.is("13 acts", x.count(7), 2);
        T.is("13 no place", x.turn(3), -1);
        T.is("13 no place", x.turn(-1), -1);
        T.is("13 refused", x.count(11), 2);
        T.is("13 no weather", new OppositeShores().turn(0), -1);
    }

    private static void delay() {
        OppositeShores x = Tell.told(PLAIN);
        T.is("14 as it was", x.delay(3), 1);
        T.is("14 as it was", x.delay(0), 3);
        T.is("14 the same", x.delay(0), 0);
        T.row("14 there", i -> x.does(0, 1, i), 2, 0, 0, 0, 2, 2);
        T.is("14 acts", x.count(7), 3);
        T.is("14 not 4", x.delay(4), -1);
        T.is("14 not -1", x.delay(-1), -1);
        T.is("14 refused", x.count(11), 2);
        T.is("14 stays", x.count(3), 0);
    }

    private static void sign() {
        OppositeShores x = Tell.told("deed 0 0;deed 0 0;opposite 0 1;pair 0;treaty 0;treaty day=2;");
        T.row("15 first", i -> x.does(0, 1, i), 0, 0, 0, 0);
        T.is("15 second", x.sign(1), true);
        T.row("15 by the second", i -> x.does(0, 1, i), 0, 0, 0, 1, 0);
        T.is("15 none", x.sign(-1), true);
        T.row("15 always", i -> x.does(0, 1, i), 0, 1, 1, 1);
        T.is("15 the same", x.sign(-1), true);
        T.is("15 acts", x.count(7), 3);
        T.is("15 no such", x.sign(2), false);
        T.is("15 no such", x.sign(-2), false);
        T.is("15 refused", x.count(11), 2);
        T.is("15 none without", new OppositeShores().sign(-1), true);
        T.is("15 not 0 without", new OppositeShores().sign(0), false);
    }

    private static void shirk() {
        OppositeShores x = Tell.told(PLAIN);
        T.is("16 not yet", x.shirk(0, false), false);
        T.is("16 shirks", x.shirk(1, true), true);
        T.is("16 already", x.shirk(1, true), false);
        T.row("16 idle", i -> x.does(1, 1, i), 0, 0, 0, 0);
        T.is("16 bits", x.count(6), 2);
        T.is("16 both", x.shirk(0, true), true);
        T.is("16 not any more", x.shirk(1, false), true);
        T.is("16 bits", x.count(6), 1);
        T.is("16 refused", x.count(11), 2);
        T.is("16 acts", x.count(7), 3);
        T.none("16 pair", () -> x.shirk(2, true));
    }

    private static void undo() {
        OppositeShores x = Tell.told(PLAIN);
        x.change(1, 2, 3);
        x.turn(0);
        x.delay(2);
        x.sign(-1);
        x.shirk(1, true);
        T.is("17 shirker", x.undo(), 4);
        T.is("17 shirker", x.count(6), 0);
        T.is("17 treaty", x.undo(), 3);
        T.is("17 treaty", x.count(5), 0);
        T.is("17 delay", x.undo(), 2);
        T.is("17 delay", x.count(3), 1);
        T.is("17 weather", x.undo(), 1);
        T.is("17 weather", x.fog(0), false);
        T.is("17 way", x.undo(), 0);
        T.is("17 way", x.way(1, 2), 1);
        T.is("17 none", x.undo(), -1);
        T.is("17 none is no act refused", x.count(11), 0);
        for (int i = 0; i < 43; i++) {
            x.delay(i % 4);
        }
        T.is("17 forty are kept", x.count(7), 40);
        for (int i = 39; i >= 0; i--) {
            T.is("17 left", x.undo(), i);
            T.is("17 delay", x.count(3), (i + 2) % 4);
        }
        T.is("17 none", x.undo(), -1);
        T.is("17 delay of the third", x.count(3), 2);
    }

    private static void gained() {
        OppositeShores x = Tell.told(PLAIN);
        T.row("18 there", i -> x.gained(0, 1, i), 0, 0, -2, -2, -2, -2, -4, -6, -8);
        T.row("18 here", i -> x.gained(0, 0, i), 0, 3, 9, 12);
        T.is("18 here", x.gained(0, 0, 100), 450);
        T.is("18 there", x.gained(1, 1, 100), 297);
        OppositeShores y = Tell.told(NO_DELAY);
        T.is("18 the idle gain", y.gained(0, 1, 1), 1);
        T.is("18 all", y.gained(0, 1, 100), 1 + 99 * 4);
        y.shirk(0, true);
        T.is("18 fines aren't taken off", y.gained(0, 1, 100), 100);
        T.none("18 side", () -> x.gained(0, 2, 101));
        T.none("18 pair", () -> x.gained(2, 0, 101));
        T.illegal("18 days", () -> x.gained(0, 0, 101));
        T.illegal("18 days", () -> x.gained(0, 0, -1));
    }

    private static void fines() {
        OppositeShores x = Tell.told(PLAIN);
        T.is("19 no shirker", x.fines(0, 100), 0);
        x.shirk(0, true);
        // He must do 2 on days 1, 5, 7, 11, 13 ..; on fog he does nothing again, which is no fault.
        T.row("19 fines", i -> x.fines(0, i), 0, 0, 1, 1, 1, 1, 2, 2, 3, 3, 3, 3, 4, 4, 5);
        T.is("19 the other one", x.fines(1, 100), 0);
        OppositeShores y = Tell.told(NO_DELAY);
        y.shirk(0, true);
        T.row("19 clear days", i -> y.fines(0, i), 0, 0, 1, 1, 2);
        T.is("19 all clear days", y.fines(0, 100), 50);
        OppositeShores z = Tell.told("deed 0 0;deed 0 0;opposite 0 1;pair 0;delay 0;");
        z.shirk(0, true);
        T.row("19 day 0", i -> z.fines(0, i), 0, 1, 2);
        T.none("19 pair", () -> x.fines(2, 101));
        T.illegal("19 days", () -> x.fines(0, 101));
        T.illegal("19 days", () -> x.fines(0, -1));
    }

    private static void unanswered() {
        OppositeShores x = Tell.told(PLAIN);
        T.is("20 fog", x.unanswered(0), 2);
        x.turn(2);
        T.is("20 clear", x.unanswered(0), -1);
        x.delay(3);
        T.is("20 later", x.unanswered(0), -1);
        x.shirk(0, true);
        T.is("20 shirker", x.unanswered(0), 0);
        x.change(0, 0, 3);
        T.is("20 idle is the contrary of 3", x.unanswered(0), -1);
        OppositeShores y = Tell.told("deed 0 0;deed 0 0;opposite 0 1;pair 0;delay 2;treaty day<97;");
        T.is("20 the last days", y.unanswered(0), 97);
        y.delay(3);
        T.is("20 beyond", y.unanswered(0), -1);
        T.none("20 pair", () -> x.unanswered(-1));
    }

    private static void even() {
        OppositeShores x = Tell.told(PLAIN);
        T.is("21 never", x.even(), -1);
        T.is("21 at once", Tell.told(NO_DELAY).even(), 0);
        // Here 1 and 3 at the ends of days 0 and 1, there 0 and 3.
        OppositeShores y = Tell.told("deed 0 0;deed 0 1;deed 0 2;deed 0 3;opposite 1 3;pair 1 2;");
        T.is("21 day 1", y.even(), 1);
        OppositeShores z = Tell.told("deed 0 0;deed 0 1;deed 0 -20;deed 0 1;opposite 1 0;opposite 2 3;"
                + "pair 1 1 1 1 1 1 1 0;delay 0;");
        T.is("21 never, more here", z.even(), -1);
    }

    private static void poorest() {
        OppositeShores x = Tell.told(PLAIN);
        T.is("22 here", x.poorest(0), 1);
        T.is("22 there", x.poorest(1), 0);
        OppositeShores y = Tell.told("deed 0 0;deed 0 -1;opposite 0 1;pair 0;");
        T.is("22 the last day", y.poorest(1), 99);
        T.is("22 the first of like ones", y.poorest(0), 0);
        T.none("22 side", () -> x.poorest(2));
        T.none("22 side", () -> x.poorest(-1));
    }

    private static void plan() {
        OppositeShores x = Tell.told(PLAIN);
        T.is("23 one", x.plan(0, 5), 1);
        T.row("23 row", x::planned, 2);
        // Day 2 is one of fog: what was done there for day 1 is done again for it.
        T.is("23 three", x.plan(0, 15), 3);
        T.row("23 row", x::planned, 2, 2, 0);
        T.is("23 two", x.plan(0, 1), 2);
        T.row("23 row", x::planned, 1, 2);
        x.shirk(0, true);
        T.is("23 no shirker", x.plan(0, 5), 1);
        T.is("23 five", x.plan(0, 25), 5);
        T.row("23 row", x::planned, 2, 2, 0, 2, 2);
        T.is("23 none", x.plan(0, 26), -1);
        T.none("23 no row", () -> x.planned(0));
        // The idle days ahead of the first answer bring their gifts, too: 3 by 2.
        OppositeShores y = Tell.told("deed 0 2;deed 0 1;opposite 0 1;pair 1;delay 3;");
        T.is("23 idle days", y.plan(0, 7), 1);
        T.row("23 row", y::planned, 0);
        T.is("23 two days", y.plan(0, 8), 2);
        T.is("23 not 6", y.plan(0, 6), -1);
        OppositeShores z = Tell.told("deed 0 0;deed 0 1;opposite 1 1;pair 0;delay 0;treaty again and day<4;");
        T.is("23 again", z.plan(0, 1), 2);
        T.row("23 row", z::planned, 1, 1);
        T.is("23 days count", z.plan(0, 3), 4);
        T.is("23 not on day 4", z.plan(0, 4), -1);
        // The second treaty demands something of pair 1 alone.
        OppositeShores w = Tell.told("deed 0 0;deed 0 1;pair 0;pair 0;delay 0;treaty 0;treaty pair=1;");
        w.sign(1);
        T.is("23 of pair 1", w.plan(1, 1), 1);
        T.is("23 of pair 0", w.plan(0, 1), -1);
        T.is("23 at the most", Tell.told("deed 0 20;pair 0;delay 0;").plan(0, 100), 5);
        T.is("23 at the least", Tell.told("deed 0 -20;pair 0;delay 0;").plan(0, -100), 5);
        T.none("23 pair", () -> x.plan(2, 101));
        T.illegal("23 too much", () -> x.plan(0, 101));
        T.illegal("23 too little", () -> x.plan(0, -101));
    }

    private static void planned() {
        OppositeShores x = Tell.told(PLAIN);
        T.none("24 none yet", () -> x.planned(0));
        x.plan(0, 15);
        T.illegal("24 refused", () -> x.plan(0, 101));
        T.none("24 refused", () -> x.plan(9, 0));
        x.change(0, 0, 0);
        x.undo();
        T.row("24 kept", x::planned, 2, 2, 0);
        T.none("24 behind", () -> x.planned(3));
        T.none("24 ahead", () -> x.planned(-1));
        x.plan(0, 5);
        T.none("24 a shorter one", () -> x.planned(1));
    }

    private static void well() {
        OppositeShores x = Tell.told(PLAIN);
        T.row("25 well", i -> x.well(0, i + 1), 6, 12, 18, 24, 30, 36);
        // Deed 1 gains 2 here and 3 there, deed 2 gains 4 here and nothing there.
        OppositeShores y = Tell.told("deed 1 0;deed 2 0;deed 4 0;deed 3 0;deed -9 0;opposite 1 3;"
                + "opposite 2 4;pair 0;delay 2;treaty deed<2;");
        T.is("25 one day", y.well(0, 1), 4 + 1);
        T.is("25 two days", y.well(0, 2), 8 + 2);
        // Free, the one there is idle and gains 1: 4 + 1 = 2 + 3.
        T.is("25 three days", y.well(0, 3), 12 + 3);
        y.shirk(0, true);
        y.sign(-1);
        // Deed 3 is its own contrary: 3 on day 0, 3 on day 2.
        T.is("25 no shirker", y.well(0, 3), 3 + 8 + 2 + 3);
        OppositeShores z = Tell.told("deed 0 0;deed 3 0;opposite 1 1;pair 0;delay 0;weather 0 1;"
                + "treaty not again;");
        // Day 0: 3 and 3; day 1 is one of fog: idle here, 3 there; day 2: 3 and 3; day 3: again.
        T.row("25 fog, again", i -> z.well(0, i + 1), 6, 12, 15, 21);
        // On day 0 nothing is done again: deed 7 alone, and not 5 here and 9 there.
        OppositeShores w = Tell.told("deed 0 0;" + "deed 5 0;".repeat(6) + "deed 9 0;opposite 0 7;"
                + "opposite 1 7;opposite 2 7;opposite 3 7;opposite 4 7;opposite 5 7;opposite 6 7;"
                + "pair 0;pair 0;delay 0;treaty again or pair;");
        T.is("25 not again on day 0", w.well(0, 1), 9);
        T.is("25 again on day 1", w.well(0, 2), 27);
        T.is("25 of pair 1", w.well(1, 1), 18);
        T.none("25 pair", () -> x.well(2, 0));
        T.illegal("25 no day", () -> x.well(0, 0));
        T.illegal("25 seven", () -> x.well(0, 7));
    }

    private static void exchange() {
        OppositeShores x = Tell.told(THREE);
        T.is("26 how much", x.exchange(10, -1), 60);
        T.row("26 row", i -> x.exchange(10, i), 1, 0, 2);
        T.row("26 no days", i -> x.exchange(0, i - 1), 0, 0, 1, 2);
        x.shirk(1, true);
        T.is("26 shirker", x.exchange(10, -1), 60);
        T.row("26 shirker's row", i -> x.exchange(10, i), 2, 1, 0);
        // Together they would gain more, but the second would lose.
        OppositeShores y = Tell.told("deed 0 0;deed 9 0;deed 1 0;pair 0;pair 2;delay 0;"
                + "treaty deed=2 and pair=1 or deed=2 and pair=0;");
        T.is("26 nobody loses", y.exchange(100, -1), 100);
        T.row("26 nobody loses", i -> y.exchange(100, i), 0, 1);
        OppositeShores z = Tell.told("deed 0 0;deed 9 0;deed 1 0;opposite 2 1;opposite 1 2;pair 1;pair 2;"
                + "delay 0;treaty not (pair=1 and deed=2) or deed=2;");
        T.row("26 one would lose", i -> z.exchange(5, i - 1), 50, 0, 1);
        // Ways of unlike lengths: in three days the first brings 9, 1, 1, the second 9, 9, 9.
        OppositeShores w = Tell.told("deed 0 0;deed 9 0;deed 1 0;pair 1 2 2;pair 1;pair 0;delay 0;"
                + "treaty not pair=1;");
        T.row("26 lengths", i -> w.exchange(3, i - 1), 27 + 11, 0, 2, 1);
        T.none("26 pair", () -> x.exchange(101, 3));
        T.none("26 pair", () -> x.exchange(5, -2));
        T.illegal("26 days", () -> x.exchange(101, 0));
        T.illegal("26 days", () -> x.exchange(-1, -1));
        T.is("26 no pairs", new OppositeShores().exchange(100, -1), 0);
    }

    private static void see() {
        OppositeShores x = Tell.told(PLAIN);
        for (int i = 1; i <= 8; i++) {
            T.is("27 see", x.see(1, 99, 3), i);
        }
        T.is("27 the ninth", x.see(0, 0, 0), -1);
        T.is("27 refused", x.count(12), 1);
        T.none("27 pair", () -> x.see(2, 0, 0));
        T.none("27 day", () -> x.see(0, 100, 0));
        T.none("27 deed", () -> x.see(0, 0, 4));
        T.is("27 refused still", x.count(12), 1);
        T.is("27 seen", x.count(8), 8);
    }

    private static void forget() {
        OppositeShores x = Tell.told(PLAIN);
        x.see(0, 0, 3);
        x.forget();
        T.is("28 none", x.count(8), 0);
        T.is("28 none false", x.falsely(), 0);
        x.forget();
        T.is("28 anew", x.see(0, 0, 3), 1);
    }

    private static void falsely() {
        OppositeShores x = Tell.told(PLAIN);
        x.see(0, 1, 2);
        x.see(1, 1, 1);
        T.is("29 all so", x.falsely(), 0);
        x.see(0, 2, 2);
        x.see(0, 2, 2);
        x.see(1, 99, 0);
        T.is("29 three", x.falsely(), 3);
        x.shirk(0, true);
        T.is("29 by a shirker", x.falsely(), 4);
    }

    private static void did() {
        OppositeShores x = Tell.told(PLAIN);
        T.is("30 nothing seen", x.did(0, 4), 15);
        x.see(0, 5, 2);
        T.is("30 deed 1", x.did(0, 4), 2);
        T.is("30 another day", x.did(0, 5), 15);
        x.see(0, 2, 0);
        T.is("30 contrary 0", x.did(0, 1), 1 | 8);
        x.see(0, 2, 1);
        T.is("30 can't be", x.did(0, 1), 0);
        x.forget();
        x.see(1, 0, 2);
        T.is("30 of another pair", x.did(0, 1), 0);
        x.forget();
        x.see(0, 1, 0);
        T.is("30 not what he did", x.did(0, 0), 1 | 8);
        x.shirk(0, true);
        T.is("30 a shirker's", x.did(0, 0), 15);
        OppositeShores y = Tell.told("deed 0 0;deed 0 0;deed 0 0;opposite 0 1;pair 0 2 1;delay 0;treaty again;");
        y.see(0, 1, 1);
        // By deed 0 on day 1 it is the same again.
        T.is("30 again", y.did(0, 1), 1);
        T.is("30 no way", y.did(0, 0), 0);
        T.none("30 pair", () -> x.did(2, 0));
        T.none("30 day", () -> x.did(0, 100));
    }

    private static void morning() {
        OppositeShores x = Tell.told(PLAIN);
        T.row("31 day 1 tells", i -> x.morning(0, 0, i), 1, 3);
        // Day 1's deed is answered on days 2 and, for fog, 3: unlike on the first of them.
        T.row("31 day 2 tells", i -> x.morning(0, 1, i), 2, 3);
        // Day 2 is one of fog: nothing tells.
        T.row("31 fog", i -> x.morning(0, 2, i), 0, 1);
        T.row("31 too late", i -> x.morning(0, 99, i), 0, 1);
        x.see(0, 1, 2);
        T.row("31 one deed", i -> x.morning(0, 0, i), 0, 1);
        x.see(0, 1, 1);
        T.row("31 none", i -> x.morning(0, 0, i), -1, 0);
        T.none("31 what", () -> x.morning(0, 0, 2));
        T.none("31 what", () -> x.morning(0, 0, -1));
        T.none("31 pair", () -> x.morning(2, 0, 0));
        T.none("31 day", () -> x.morning(0, 100, 0));
    }

    private static void found() {
        OppositeShores x = Tell.told(PLAIN);
        T.is("32 nothing seen", x.found(), 3);
        x.see(0, 5, 2);
        T.is("32 not 0", x.found(), 2);
        x.see(1, 5, 0);
        T.is("32 1 shirks", x.found(), 2);
        x.shirk(1, true);
        T.is("32 he does", x.found(), 0);
        x.forget();
        x.see(1, 5, 1);
        T.is("32 he doesn't", x.found(), 2);
        x.see(0, 5, 0);
        T.is("32 two otherwise", x.found(), 0);
    }

    private static void compared() {
        OppositeShores x = Tell.told("deed 1 0;deed 0 0;deed 5 0;opposite 1 2;pair 1;pair 0;"
                + "treaty 0;treaty day<9;treaty pair=0;");
        // Idle days gain 1; pair 1 does always nothing.
        T.row("33 compared", i -> x.compared(i - 1), 1 + 99 * 5 + 100, 200, 1 + 9 * 5 + 90 + 100,
                1 + 99 * 5 + 100);
        T.is("33 in force still", x.count(5), 0);
        T.none("33 no such", () -> x.compared(3));
        T.none("33 no such", () -> x.compared(-2));
        T.is("33 no pairs", new OppositeShores().compared(-1), 0);
    }

    private static void best() {
        OppositeShores x = Tell.told("deed 0 0;deed 0 0;deed 5 0;opposite 1 2;pair 1;"
                + "treaty 0;treaty 1;treaty day;");
        T.is("34 none of like ones", x.best(), -1);
        OppositeShores y = Tell.told("deed 0 0;deed 0 0;deed -5 0;opposite 1 2;pair 1;"
                + "treaty 1;treaty 0;treaty 0;");
        T.is("34 the first of like ones", y.best(), 1);
        OppositeShores w = Tell.told("deed 0 0;deed 0 0;deed -5 0;opposite 1 2;pair 1;treaty 0;");
        T.is("34 the very first", w.best(), 0);
        OppositeShores z = Tell.told("deed 0 0;deed 0 0;deed -5 0;opposite 1 2;pair 1;"
                + "treaty 1;treaty day<2;treaty day<1;");
        T.is("34 the last", z.best(), 2);
        T.is("34 in force still", z.count(5), 0);
    }

    private static void delayed() {
        T.is("35 no pairs", new OppositeShores().delayed(), 0);
        OppositeShores x = Tell.told("deed 0 1;deed 0 0;opposite 0 1;pair 0;");
        T.is("35 the longest", x.delayed(), 3);
        T.is("35 still", x.count(3), 1);
        OppositeShores y = Tell.told("deed 0 -1;deed 0 0;opposite 0 1;pair 0;");
        T.is("35 the shortest", y.delayed(), 0);
        // What is done on day 98 is answered in time by a delay of 0 or 1, and brings nothing good.
        OppositeShores z = Tell.told("deed 0 0;deed 0 -1;opposite 0 1;pair 0;treaty day=98;");
        T.is("35 the least of like ones", z.delayed(), 2);
        OppositeShores w = Tell.told("deed 0 0;deed 0 -1;opposite 0 1;pair 0;delay 3;treaty day=99;");
        T.is("35 one", w.delayed(), 1);
    }

    private static void harms() {
        OppositeShores x = Tell.told("deed 0 0;deed 0 0;deed 9 0;opposite 1 2;pair 1 0;weather 1 0;delay 0;");
        T.is("36 fog", x.harms(), 0);
        T.is("36 as it was", x.fog(0), true);
        x.turn(0);
        T.is("36 by fog he does it again", x.harms(), 1);
        x.turn(1);
        T.is("36 none", x.harms(), -1);
        OppositeShores y = Tell.told("deed 0 0;deed 0 0;deed 9 0;opposite 1 2;pair 1;weather 0 1 1;");
        T.is("36 already again", y.harms(), -1);
        OppositeShores z = Tell.told("deed 0 0;deed 0 0;deed 9 0;opposite 1 2;pair 1;weather 1 1;delay 0;");
        T.is("36 the first day counts", z.harms(), 0);
        T.is("36 no weather", Tell.told(THREE).harms(), -1);
    }

    private static void game() {
        OppositeShores x = Tell.told(PLAIN);
        // Both deeds 1 and 2 gain 1 with what comes of them: so each wants what the other doesn't.
        T.row("37 rests", i -> x.game(0, 1, 3, 12, i), 2, 1);
        T.row("37 one deed", i -> x.game(0, 1, 3, 33, i), 4, 0);
        // Deed 3 gains 6 by itself, deed 2 gains -2 and 3: 6 less 5 is no less than 1.
        T.row("37 alike good", i -> x.game(0, 1, 3, 32, i), 3, 0);
        // Deed 0 gains nothing: 6 less 5 is more.
        T.row("37 better all the same", i -> x.game(0, 1, 3, 30, i), 1, 0);
        T.row("37 the second", i -> x.game(0, 1, 3, 3, i), 1, 11);
        // On day 99 nobody answers: 6 or 3, less 5.
        T.row("37 day 99", i -> x.game(0, 1, 99, 31, i), 2, 1);
        // On a day of fog pair 0's double gains -2 (day 6), pair 1's 3, whatever is done.
        T.row("37 fog", i -> x.game(0, 1, 5, 13, i), 2, 1);
        x.shirk(1, true);
        // The double of pair 1 gains nothing: deed 2 is worth -2 to it, less than 6 less 5.
        T.row("37 shirker", i -> x.game(0, 1, 3, 32, i), 2, 0);
        // Pair 0 leaves deed 1, if both do it, pair 1 doesn't: 3 less 5 is no less than -2.
        T.row("37 one of them leaves", i -> x.game(0, 1, 3, 12, i), 2, 1);
        T.row("37 the other one leaves", i -> x.game(1, 0, 3, 12, i), 2, 1);
        T.row("37 both idle", i -> x.game(0, 1, 3, 0, i), 4, 0);
        T.none("37 pair", () -> x.game(-1, 1, 0, 12, 0));
        T.none("37 pair", () -> x.game(2, 2, 0, 12, 0));
        T.none("37 pair", () -> x.game(0, -1, 0, 12, 0));
        T.none("37 day", () -> x.game(0, 0, 100, 12, 0));
        T.none("37 deeds", () -> x.game(0, 0, 0, -1, 0));
        T.none("37 deeds", () -> x.game(0, 0, 0, 40, 0));
        T.none("37 deeds", () -> x.game(0, 0, 0, 14, 0));
        T.none("37 deeds", () -> x.game(0, 0, 0, 112, 0));
        T.none("37 what", () -> x.game(0, 0, 0, 12, 2));
        T.none("37 what", () -> x.game(0, 0, 0, 12, -1));
        T.illegal("37 one pair", () -> x.game(1, 1, 0, 12, 0));
    }

    /**
     * Seed 1: 1103527590, -1770118777 .., of which bits 16 to 30 are 16838, 5758, 10113, 17515,
     * 31051, 5627, 23010, 7419, 16212, 4086: fog on day 8 alone of the first ten.
     */
    private static void years() {
        OppositeShores x = Tell.told("deed 0 1;deed 0 3;opposite 1 1;pair 1 0;weather 1;delay 0;");
        T.row("38 no days", i -> x.years(1, 0, i), 0, 0, 0);
        T.row("38 one day", i -> x.years(1, 1, i), 3, 3, 0);
        T.row("38 eight days", i -> x.years(1, 8, i), 16, 16, 0);
        // On day 8 he does again what he did on day 7: nothing.
        T.row("38 nine days", i -> x.years(1, 9, i), 17, 19, 1);
        x.delay(1);
        // He is idle on day 0, then does what was done here a day ahead; on day 9 again: nothing.
        T.row("38 nine days", i -> x.years(1, 9, i), 1 + 4 * 4, 19, 0);
        T.row("38 ten days", i -> x.years(1, 10, i), 17 + 1, 20, 1);
        T.is("38 weather stays", x.fog(8), true);
        T.is("38 no pairs", new OppositeShores().years(1, 100, 2), 0);
        T.none("38 what", () -> x.years(1, 101, 3));
        T.none("38 what", () -> x.years(1, 101, -1));
        T.illegal("38 n", () -> x.years(1, 101, 0));
        T.illegal("38 n", () -> x.years(1, -1, 0));
    }

    private static void ring() {
        OppositeShores x = Tell.told("deed 0 0;deed 0 0;deed 0 0;deed 0 0;deed 0 0;"
                + "opposite 0 1;opposite 1 2;opposite 2 0;opposite 3 2;");
        T.row("39 ring", x::ring, 3, 3, 3, 4, 1);
        OppositeShores y = Tell.told("deed 0 0;".repeat(8) + "opposite 7 6;opposite 6 5;opposite 5 4;"
                + "opposite 4 3;opposite 3 2;opposite 2 1;opposite 1 0;");
        T.is("39 all", y.ring(7), 8);
        T.none("39 deed", () -> x.ring(5));
        T.none("39 deed", () -> x.ring(-1));
    }

    private static void idle() {
        OppositeShores x = Tell.told(NO_DELAY);
        T.is("40 here", x.idle(0, 0), 67);
        T.is("40 there", x.idle(0, 1), 1);
        x.shirk(0, true);
        T.is("40 shirker", x.idle(0, 1), 100);
        T.none("40 side", () -> x.idle(0, 2));
        T.none("40 side", () -> x.idle(0, -1));
        T.none("40 pair", () -> x.idle(1, 0));
    }

    private static void waves() {
        OppositeShores x = Tell.told(PLAIN);
        // Pair 1 here: 2 2 1, there 0 1 1 1.
        T.row("41 waves", x::waves, 0, 0, 2, 0, 0, 2);
        x.change(0, 0, 0);
        x.change(0, 1, 0);
        T.row("41 the idle", x::waves, 1, 1, 3);
        T.none("41 day", () -> x.waves(100));
        T.none("41 day", () -> x.waves(-1));
    }

    private static void ruined() {
        OppositeShores x = Tell.told(PLAIN);
        T.is("42 pair 0", x.ruined(), 0);
        T.is("42 none", new OppositeShores().ruined(), -1);
        OppositeShores y = Tell.told(THREE);
        T.is("42 of like ones", y.ruined(), 0);
        y.change(0, 0, 2);
        T.is("42 pair 1", y.ruined(), 1);
    }

    private static void stop() {
        OppositeShores x = Tell.told(PLAIN);
        T.is("43 deed 1", x.stop(0), 1);
        T.is("43 none", x.stop(1), -1);
        T.is("43 way stays", x.way(0, 0), 1);
        // Idle has a contrary here, which gains 4; 1 and 2 gain nothing, 3 gains 9.
        OppositeShores y = Tell.told("deed 0 0;deed 0 0;deed 0 0;deed 9 0;deed 4 0;opposite 0 4;"
                + "pair 3 2 1;pair 1 2 2;pair 0 3 3;delay 0;");
        T.is("43 the least of like ones", y.stop(0), 1);
        T.is("43 wherever it stands", y.stop(1), 2);
        T.is("43 none gains more", y.stop(2), -1);
        T.none("43 pair", () -> x.stop(2));
    }

    private static void swap() {
        // With fog on each second day what was done is done again.
        OppositeShores x = Tell.told("deed 0 0;deed 9 0;pair 0 1 0 1;weather 0 1;delay 0;pair 0 0 0 1;pair 1;");
        T.is("44 first of the best", x.swap(0), 1);
        T.is("44 way stays", x.way(0, 0), 0);
        T.is("44 first of like ones", x.swap(1), 3);
        T.is("44 one place", x.swap(2), -1);
        x.turn(1);
        T.is("44 none by clear days", x.swap(0), -1);
        OppositeShores y = Tell.told("deed 0 0;deed 9 0;pair 0 0 0 0 0 1 0;weather 0 1;delay 0;pair 1 0 0;"
                + "treaty day=98;");
        // Day 98 is the first of seven (the third of three for pair 1); on day 99 again.
        T.is("44 places", y.swap(0), 5);
        T.is("44 places", y.swap(1), 2);
        T.none("44 pair", () -> x.swap(3));
    }

    private static void year() {
        OppositeShores x = Tell.told(PLAIN);
        T.is("45 six", x.year(0), 6);
        T.is("45 one", x.year(1), 1);
        OppositeShores y = Tell.told("deed 0 0;deed 0 0;opposite 0 1;pair 0;delay 0;treaty day=20 or day=70;");
        T.is("45 fifty", y.year(0), 50);
        OppositeShores z = Tell.told("deed 0 0;deed 0 0;opposite 0 1;pair 0;delay 0;treaty day=70;");
        T.is("45 none", z.year(0), -1);
        OppositeShores w = Tell.told("deed 0 0;deed 0 0;opposite 0 1;pair 0;delay 0;treaty day=49;");
        T.is("45 day 49 is compared", w.year(0), -1);
        OppositeShores v = Tell.told("deed 0 0;deed 0 0;opposite 0 1;pair 0;delay 0;treaty day=48;");
        // From day 49 on he is idle.
        T.is("45 day 48 isn't", v.year(0), 1);
        T.none("45 pair", () -> x.year(2));
    }

    private static void spell() {
        OppositeShores x = Tell.told(PLAIN);
        T.row("46 one day", x::spell, 1, 2);
        OppositeShores y = Tell.told("weather 1 0 1 1;");
        // Behind days 2 and 3 comes day 4, the first of the next four.
        T.row("46 three days", y::spell, 3, 2);
        T.row("46 no fog", Tell.told("weather 0;")::spell, 0, -1);
        T.row("46 no weather", new OppositeShores()::spell, 0, -1);
        T.row("46 all", Tell.told("weather 1;")::spell, 100, 0);
        T.none("46 what", () -> x.spell(2));
        T.none("46 what", () -> x.spell(-1));
    }

    private static void helps() {
        OppositeShores x = Tell.told(PLAIN);
        // Pair 0 gains -98 there, pair 1 gains 297 by deed 1 there from day 1 on.
        T.row("47 helps", x::helps, 1, 0, 1, 1);
        T.is("47 ways stay", x.way(0, -1), 2);
        x.shirk(0, true);
        T.row("47 shirker", x::helps, 0, 0, 0, 0);
        T.none("47 deed", () -> x.helps(4));
        T.none("47 deed", () -> x.helps(-1));
        T.is("47 again", Tell.told("deed 0 0;deed 1 0;pair 1 0;pair 1;delay 0;treaty again;").helps(1), 1);
    }

    private static void image() {
        OppositeShores x = Tell.told(PLAIN);
        x.image();
        x.delay(2);
        x.image();
        x.delay(3);
        x.restore();
        T.is("48 in place of another one", x.count(3), 2);
        x.delay(0);
        x.restore();
        T.is("48 it stays", x.count(3), 2);
    }

    private static void restore() {
        OppositeShores x = Tell.told(PLAIN);
        T.is("49 none", x.restore(), false);
        x.turn(1);
        x.see(0, 5, 2);
        x.shirk(1, true);
        x.image();
        x.change(0, 0, 3);
        x.undo();
        x.undo();
        x.undo();
        x.change(0, 0, 0);
        x.delay(3);
        x.sign(1);
        x.turn(0);
        x.turn(9);
        x.forget();
        x.see(1, 1, 1);
        x.see(1, 2, 1);
        x.see(1, 3, 2);
        x.plan(0, 5);
        T.is("49 restored", x.restore(), true);
        T.row("49 as it was", x::count, 4, 2, 3, 1, 2, 0, 2, 2, 1, 0, 0, 1, 0);
        T.row("49 ways", i -> x.way(0, i), 1, 3);
        T.row("49 weather", i -> x.fog(i) ? 1 : 0, 0, 1, 1);
        T.row("49 seen", i -> x.did(0, 4 + i), 0, 0);
        T.row("49 the row is kept", x::planned, 0, 2);
        T.is("49 acts", x.undo(), 1);
        T.is("49 acts", x.count(6), 0);
        T.is("49 acts", x.undo(), 0);
        T.is("49 acts", x.fog(1), false);
        restoreSeen();
    }

    private static void restoreSeen() {
        OppositeShores x = Tell.told(PLAIN);
        x.see(0, 1, 2);
        x.see(1, 1, 1);
        x.image();
        x.forget();
        x.see(1, 50, 3);
        x.see(0, 60, 3);
        T.is("49 other things seen", x.falsely(), 2);
        x.restore();
        T.is("49 seen as it was", x.falsely(), 0);
        T.is("49 seen as it was", x.did(0, 0), 2);
    }
}
