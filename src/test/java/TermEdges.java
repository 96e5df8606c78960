/** The edges of the terms under the marks ==== 2 to ==== 5. */
final class TermEdges {
    /** Here nothing is done, there its contrary, deed 1, from day 1 on. */
    private static final String ONE = "deed 0 0;deed 1 1;opposite 0 1;pair 0;";
    private static final int[] IDLE_FOUR = {0, 0, 0, 0};

    private final Edges e;

    TermEdges(Edges edges) {
        e = edges;
    }

    void run() {
        e.under("==== 2.", "==== 3.");
        days();
        musts();
        storesAndActs();
        e.under("==== 3.", "==== 4.");
        sums();
        plans();
        wellAndExchange();
        e.under("==== 4.", "==== 5.");
        seen();
        compared();
        games();
        years();
        e.under("==== 5.", "The constants");
        ringsAndIdle();
        ways();
        yearsAndSpells();
        e.under("The constants", "## Promise 1");
        e.test("`NONE = -1`: There is none.", () -> e.is("NONE", OppositeShores.NONE, -1));
    }

    // ---- days, musts, shirkers

    private void days() {
        e.test("DAYS are 0 to 99.", () -> {
            OppositeShores x = Tell.told(ONE);
            e.noneOutside("fog", 0, 99, x::fog);
            e.noneOutside("does", 0, 99, d -> x.does(0, 1, d));
            e.is("the last", x.does(0, 1, 99), 1);
            e.is("as many", x.idle(0, 0), 100);
        });
        e.test("On DAY d the one HERE does the (d MOD how many)-th DEED of the WAY.", () -> {
            OppositeShores x = Tell.told("deed 0 0;deed 0 0;deed 0 0;pair 2 0 1;pair 1;pair 0 0 0 0 0 0 1 2;");
            e.row("three", i -> x.does(0, 0, i), 2, 0, 1, 2, 0, 1, 2);
            e.row("three, day 96 on", i -> x.does(0, 0, 96 + i), 2, 0, 1, 2);
            e.row("one", i -> x.does(1, 0, 33 * i), 1, 1, 1, 1);
            e.row("eight, day 5 on", i -> x.does(2, 0, 5 + i), 0, 1, 2, 0);
            e.row("eight, day 93 on", i -> x.does(2, 0, 93 + i), 0, 1, 2, 0, 0, 0, 0);
        });
        e.test("The one THERE does on it what he MUST for the DEED of the one HERE on DAY d less DELAY: "
                + "there is none ahead of DAY 0: he is idle (as without a PAIR's DEED);", () -> {
            int[][] due = {{1, 1, 1, 1, 1}, {0, 1, 1, 1, 1}, {0, 0, 1, 1, 1}, {0, 0, 0, 1, 1}};
            for (int delay = 0; delay <= 3; delay++) {
                OppositeShores x = Tell.told(ONE + "delay " + delay + ";");
                e.row("delay " + delay, i -> x.does(0, 1, i), due[delay]);
                // It is no fog: there was nothing to be seen.
                x.shirk(0, true);
                e.is("no fine by delay " + delay, x.fines(0, delay), 0);
                e.is("a fine behind it", x.fines(0, delay + 1), 1);
            }
            OppositeShores y = Tell.told(ONE + "delay 3;weather 1;");
            e.row("nor by fog", i -> y.must(0, i), -1, -1, -1, 0, 0);
        });
    }

    private void musts() {
        e.test("if that DAY was one of fog, he does again what he did on the DAY ahead of d (idle on DAY 0);", () -> {
            OppositeShores x = Tell.told("deed 0 0;deed 0 0;deed 0 0;opposite 0 1;opposite 1 2;pair 0 1;"
                    + "delay 0;weather 1 0 0 1 1;");
            // Here 0 1 0 1 0 1 0 ..; fog on days 0, 3, 4, 5 (the first of the weather again), 8.
            e.row("no delay", i -> x.does(0, 1, i), 0, 2, 1, 1, 1, 1, 1, 2, 2);
            x.delay(2);
            // What is told on day 0 is seen as fog on day 2, where it counts.
            e.row("by the day that was", i -> x.does(0, 1, i), 0, 0, 0, 2, 1, 1, 1, 1, 1, 2, 2);
            OppositeShores y = Tell.told(ONE + "delay 0;weather 1;");
            e.row("always fog", i -> y.does(0, 1, 33 * i), IDLE_FOUR);
        });
        e.test("else, if the TREATY in force gives more than 0 for it (without one always), its OPPOSITE;", () -> {
            e.is("1", Tell.told(ONE + "treaty 1;").does(0, 1, 1), 1);
            e.is("0", Tell.told(ONE + "treaty 0;").does(0, 1, 1), 0);
            e.is("-1", Tell.told(ONE + "treaty 0-1;").does(0, 1, 1), 0);
            e.is("9999", Tell.told(ONE + "treaty 9999;").does(0, 1, 1), 1);
            // It wraps below 0.
            e.is("2 ** 31", Tell.told(ONE + "treaty 4096*8192*64;").does(0, 1, 1), 0);
            e.is("2 ** 31 - 1", Tell.told(ONE + "treaty 4096*8192*64-1;").does(0, 1, 1), 1);
            e.is("without one", Tell.told(ONE).does(0, 1, 1), 1);
            OppositeShores x = Tell.told(ONE + "treaty 0;");
            x.sign(-1);
            e.is("none in force", x.does(0, 1, 1), 1);
            OppositeShores y = Tell.told("deed 0 0;deed 0 0;opposite 0 1;opposite 1 0;pair 0 1;delay 0;treaty 1;");
            for (int day = 0; day < 100; day++) {
                e.is("day " + day, y.does(0, 1, day), 1 - day % 2);
            }
        });
        e.test("else he is idle, FREE.", () -> {
            OppositeShores x = Tell.told(ONE + "treaty 0;");
            e.row("idle", i -> x.does(0, 1, i), IDLE_FOUR);
            e.row("free", i -> x.must(0, i), -1, -1, -1, -1);
            x.shirk(0, true);
            e.is("no fine", x.fines(0, 100), 0);
        });
        e.test("A SHIRKER is idle whenever he MUST do otherwise: then he is FINED 1.", () -> {
            OppositeShores x = Tell.told("deed 0 0;deed 0 0;deed 0 0;opposite 1 2;opposite 2 0;pair 1 2;delay 0;");
            x.shirk(0, true);
            e.row("idle", i -> x.does(0, 1, i), IDLE_FOUR);
            e.row("must", i -> x.must(0, i), 2, 0, 2, 0);
            // To be idle, as he must, is no fault.
            e.row("fined", i -> x.fines(0, i), 0, 1, 1, 2, 2);
            e.is("fined in all", x.fines(0, 100), 50);
            OppositeShores y = Tell.told("deed 0 0;deed 0 0;opposite 0 1;pair 0;treaty day=3;");
            y.shirk(0, true);
            // Where there was no deed, and where he is free, he may be idle.
            e.row("fined once", i -> y.fines(0, i), 0, 0, 0, 0, 0, 1, 1);
        });
        e.test("(What he does again is what he did, not what he had to do.)", () -> {
            OppositeShores x = Tell.told(ONE + "delay 0;weather 0 1;");
            e.row("no shirker", i -> x.must(0, i), 1, 1, 1, 1);
            x.shirk(0, true);
            e.row("shirker", i -> x.must(0, i), 1, 0, 1, 0);
            e.is("fined on clear days alone", x.fines(0, 100), 50);
        });
    }

    private void storesAndActs() {
        e.test("A STORE (of HERE, of THERE) begins with 0; each DAY all DEEDS that are done on it bring their GIFTS.", () -> {
            OppositeShores x = Tell.told("deed 0 0;deed 0 3;deed 0 -4;opposite 1 2;pair 1;pair 1 0;delay 0;");
            e.row("here", i -> x.store(0, i), 6, 9, 15, 18);
            e.row("there", i -> x.store(1, i), -8, -12, -20, -24);
            e.is("here, day 99", x.store(0, 99), 450);
            e.is("there, day 99", x.store(1, 99), -600);
            OppositeShores y = Tell.told("deed 0 0;deed 0 5;");
            e.is("no pairs", y.store(0, 0), 0);
            e.is("no pairs, day 99", y.store(1, 99), 0);
        });
        e.test("ACTS (at most 40 are kept, the latest ones):", () -> {
            OppositeShores x = Tell.told(ONE + "delay 3;");
            x.shirk(0, true);
            for (int i = 0; i < 39; i++) {
                x.delay(i % 3);
            }
            e.is("forty", x.count(7), 40);
            e.is("one more", x.delay(3), 2);
            e.is("forty still", x.count(7), 40);
            for (int i = 39; i >= 0; i--) {
                e.is("left", x.undo(), i);
            }
            e.is("no more", x.undo(), -1);
            e.is("all delays are undone", x.count(3), 3);
            e.is("the first act isn't kept", x.count(6), 1);
        });
        e.test("the i-th DEED of a WAY becomes another;", () -> {
            OppositeShores x = Tell.told("deed 0 0;deed 0 0;pair 0 0 0 0 0 0 0 0;pair 0;");
            x.change(0, 0, 1);
            x.change(0, 7, 1);
            e.row("first and last", i -> x.way(0, i), 1, 0, 0, 0, 0, 0, 0, 1);
            e.is("no other pair's", x.way(1, 0), 0);
        });
        e.test("the i-th number of the WEATHER turns over (there must be one);", () -> {
            OppositeShores x = Tell.told("weather 0 0 0 0 0 0 0 0 0 0;");
            e.is("first", x.turn(0), 1);
            e.is("last", x.turn(9), 1);
            e.is("and back", x.turn(0), 0);
            e.row("fog", i -> x.fog(i) ? 1 : 0, 0, 0, 0, 0, 0, 0, 0, 0, 0, 1);
            OppositeShores y = Tell.told(ONE);
            e.is("there is none", y.turn(0), -1);
            e.is("no act", y.count(7), 0);
        });
        e.test("the DELAY becomes another; the TREATY in force becomes another, or none "
                + "(TREATY 0 at first, if there is one);", () -> {
            OppositeShores x = Tell.told(ONE + "treaty 1;treaty 0;");
            e.is("at first", x.count(5), 0);
            x.sign(1);
            e.is("another", x.count(5), 1);
            x.sign(-1);
            e.is("none", x.count(5), -1);
            e.is("there is none", Tell.told(ONE).count(5), -1);
            x.delay(3);
            e.is("delay", x.count(3), 3);
        });
        e.test("one becomes a SHIRKER, or not any more.", () -> {
            OppositeShores x = Tell.told(ONE);
            x.shirk(0, true);
            e.is("shirker", x.does(0, 1, 50), 0);
            x.shirk(0, false);
            e.is("not any more", x.does(0, 1, 50), 1);
        });
        e.test("They are UNDONE, the last one first. All is as if it had been so from DAY 0 on.", () -> {
            OppositeShores x = Tell.told(ONE + "weather 0;treaty 1;");
            x.delay(0);
            e.is("from day 0 on", x.does(0, 1, 0), 1);
            x.turn(0);
            e.is("fog from day 0 on", x.does(0, 1, 99), 0);
            x.shirk(0, true);
            x.undo();
            e.is("no shirker", x.count(6), 0);
            e.is("but fog", x.fog(0), true);
            x.undo();
            e.is("no fog", x.does(0, 1, 0), 1);
            x.undo();
            e.is("delay 1", x.does(0, 1, 0), 0);
            OppositeShores y = Tell.told("deed 0 0;deed 0 0;opposite 0 1;pair 0 0;delay 0;treaty again;");
            e.row("again", i -> y.does(0, 1, i), 0, 1, 1, 1);
            y.change(0, 0, 1);
            e.row("never again", i -> y.does(0, 1, i), IDLE_FOUR);
            y.undo();
            e.row("again as ahead of it", i -> y.does(0, 1, i), 0, 1, 1, 1);
            asIfTold();
        });
    }

    /** By acts all answers become those of another text, and by undoing them those of the first. */
    private void asIfTold() {
        String deeds = "deed 1 2;deed 3 -1;deed -2 4;deed 0 1;opposite 0 1;opposite 1 2;opposite 2 3;";
        String treaties = "treaty not again;treaty deed<2 or day/4*4=day;";
        OppositeShores x = Tell.told(deeds + treaties + "pair 1 2 0;pair 3 1;weather 0 0 1 0;delay 2;");
        OppositeShores y = Tell.told(deeds + treaties + "pair 1 2 3;pair 2 1;weather 1 0 1 1;delay 0;");
        y.sign(1);
        y.shirk(1, true);
        String first = answers(x);
        x.change(0, 2, 3);
        x.change(1, 0, 2);
        x.turn(0);
        x.turn(3);
        x.delay(0);
        x.sign(1);
        x.shirk(1, true);
        e.is("all answers by acts", answers(x), answers(y));
        for (int i = 0; i < 7; i++) {
            x.undo();
        }
        e.is("all answers, undone", answers(x), first);
    }

    /** What an object of two pairs and four deeds answers to all kinds of questions. */
    private static String answers(OppositeShores x) {
        x.forget();
        x.see(0, 3, x.does(0, 1, 3));
        x.see(1, 5, x.does(1, 1, 5));
        StringBuilder all = new StringBuilder();
        for (int pair = 0; pair < 2; pair++) {
            all.append(x.gained(pair, 0, 100)).append(' ').append(x.gained(pair, 1, 77)).append(' ')
                    .append(x.fines(pair, 100)).append(' ').append(x.unanswered(pair)).append(' ')
                    .append(x.plan(pair, 7)).append(Edges.plan(x)).append(' ').append(x.well(pair, 5)).append(' ')
                    .append(x.did(pair, 3)).append(' ').append(x.morning(pair, 4, 0)).append(' ')
                    .append(x.morning(pair, 4, 1)).append(' ').append(x.idle(pair, 1)).append(' ')
                    .append(x.stop(pair)).append(' ').append(x.swap(pair)).append(' ').append(x.year(pair)).append(' ')
                    .append(x.poorest(pair)).append(' ').append(x.store(pair, 50)).append(' ');
        }
        all.append(x.even()).append(' ').append(x.exchange(100, -1)).append(x.exchange(100, 0)).append(' ')
                .append(x.found()).append(' ').append(x.compared(-1)).append(' ').append(x.compared(0)).append(' ')
                .append(x.compared(1)).append(' ').append(x.best()).append(' ').append(x.delayed()).append(' ')
                .append(x.harms()).append(' ').append(x.game(0, 1, 7, 12, 0)).append(x.game(0, 1, 7, 12, 1)).append(' ')
                .append(x.years(9, 99, 0)).append(' ').append(x.years(9, 99, 2)).append(' ').append(x.waves(9)).append(' ')
                .append(x.ruined()).append(' ').append(x.spell(0)).append(x.spell(1)).append(' ');
        for (int deed = 0; deed < 4; deed++) {
            all.append(x.helps(deed)).append(' ');
        }
        return all.toString();
    }

    // ---- sums and plans

    private void sums() {
        e.test("GAINED by one of a PAIR in so many DAYS (0 to 100, from DAY 0 on): the sum of his GAINS;", () -> {
            OppositeShores x = Tell.told("deed 2 0;deed -3 0;opposite 0 1;pair 0;");
            e.row("there", i -> x.gained(0, 1, i), 0, 2, -1, -4);
            e.row("here", i -> x.gained(0, 0, i), 0, 2, 4, 6);
            e.is("99 days", x.gained(0, 1, 99), 2 - 3 * 98);
            e.is("100 days", x.gained(0, 1, 100), 2 - 3 * 99);
            e.illegalOutside("days", 0, 100, d -> x.gained(0, 1, d));
            x.shirk(0, true);
            e.is("fines are no gains", x.gained(0, 1, 100), 200);
        });
        e.test("FINES of a PAIR in these DAYS.", () -> {
            OppositeShores x = Tell.told(ONE + "delay 0;pair 0;");
            x.shirk(0, true);
            e.row("fines", i -> x.fines(0, i), 0, 1, 2);
            e.is("100 days", x.fines(0, 100), 100);
            e.is("of the other pair", x.fines(1, 100), 0);
            e.illegalOutside("days", 0, 100, d -> x.fines(0, d));
        });
        e.test("UNANSWERED: the first DAY on which one of a PAIR HERE does a DEED for which THERE nothing "
                + "is done DELAY later (within 99) that is its OPPOSITE; none.", () -> {
            e.is("none", Tell.told(ONE).unanswered(0), -1);
            e.is("the first day", Tell.told(ONE + "treaty 0;").unanswered(0), 0);
            e.is("day 99", Tell.told(ONE + "delay 0;treaty day<99;").unanswered(0), 99);
            e.is("day 99 can't be answered", Tell.told(ONE + "delay 1;treaty day<99;").unanswered(0), -1);
            e.is("day 96", Tell.told(ONE + "delay 3;treaty day<96;").unanswered(0), 96);
            e.is("day 97 can't", Tell.told(ONE + "delay 3;treaty day<97;").unanswered(0), -1);
            // Whose contrary is to be idle is answered by one who does nothing.
            e.is("idle", Tell.told("deed 0 0;deed 0 0;opposite 1 0;pair 1;treaty 0;").unanswered(0), -1);
        });
        String late = "deed 0 0;deed 0 0;deed 0 1;deed 0 0;deed 0 -1;opposite 1 2;opposite 3 4;pair 1 3;delay 0;";
        e.test("EVEN: the first DAY at whose end both STORES are alike; none.", () -> {
            e.is("at once", Tell.told(ONE).even(), 0);
            e.is("no pairs", Tell.told("").even(), 0);
            // There it is 1 from day 0 to day 98.
            e.is("the last day", Tell.told(late + "treaty day=0 or day=99;").even(), 99);
            e.is("none", Tell.told(late + "treaty day=0;").even(), -1);
            e.is("the first of some", Tell.told(late).even(), 1);
            // Here 3 5 8 .., there 1 5 6 ..; the second time it is as the first time.
            OppositeShores x = Tell.told("deed 0 1;deed 0 3;deed 0 2;deed 0 4;opposite 1 0;opposite 2 3;pair 1 2;delay 0;");
            e.row("day 1", i -> x.even(), 1, 1);
            x.delay(1);
            // There 1 2 6 7 11: less than 3 5 8 10 13 for ever.
            e.row("none", i -> x.even(), -1, -1);
        });
        e.test("POOREST: the DAY at whose end a STORE is least (the first such one).", () -> {
            OppositeShores x = Tell.told(late + "treaty day=0 or day=99;");
            e.is("the last day", x.poorest(1), 99);
            e.is("alike on all days", x.poorest(0), 0);
            e.is("the first of some", Tell.told(late).poorest(1), 1);
            e.is("no pairs", Tell.told("deed 0 -5;").poorest(1), 0);
            e.is("one pair, and no idle one beside it", Tell.told("deed 0 5;deed 0 -1;pair 1;").poorest(0), 99);
            e.is("above 0 on all days", Tell.told("deed 0 5;pair 0;").poorest(0), 0);
            // Here 2 -1 1 -2 .. down to day 99, there for each deed the other one: 0 on day 0, then up.
            OppositeShores y = Tell.told("deed 0 0;deed 0 2;deed 0 -3;opposite 1 1;opposite 2 1;pair 1 2;");
            e.row("here and there", y::poorest, 99, 0);
            e.row("once more", y::poorest, 99, 0);
            y.change(0, 1, 1);
            e.row("now up", y::poorest, 0, 0);
        });
    }

    private void planIs(OppositeShores x, int gifts, String row) {
        int due = row.isEmpty() ? -1 : row.length();
        e.is(gifts + " by " + due, x.plan(0, gifts), due);
        e.is("row by " + gifts, Edges.plan(x), row);
    }

    private void plans() {
        e.test("A PLAN for a PAIR: the shortest row of DEEDS HERE (1 to 5),", () -> {
            OppositeShores x = Tell.told("deed 0 0;deed 0 1;pair 0;delay 0;");
            planIs(x, 1, "1");
            planIs(x, 5, "11111");
            planIs(x, 6, "");
            // A row has one deed at the least, though by none at all it would be 0.
            OppositeShores y = Tell.told("deed 0 1;pair 0;delay 0;");
            planIs(y, 0, "");
            planIs(y, 1, "0");
            // Of deeds that are told: each is answered by 1.
            OppositeShores z = Tell.told("deed 0 0;deed 0 1;opposite 0 1;pair 0;delay 0;");
            planIs(z, 0, "");
            planIs(z, 3, "000");
        });
        e.test("on DAYS from 0 on in place of its WAY (nothing is done behind it: no more MUSTS), by which "
                + "all GIFTS of the one THERE together, over the DAYS of the row and DELAY more, are", () -> {
            // By its way he would go on with 1 on each day.
            OppositeShores x = Tell.told("deed 0 0;deed 0 1;pair 1 1;delay 3;treaty day<2;");
            planIs(x, 1, "1");
            planIs(x, 2, "11");
            planIs(x, 3, "");
            // Three idle days ahead of the first answer bring 2 each.
            OppositeShores y = Tell.told("deed 0 2;deed 0 7;pair 1;delay 3;");
            planIs(y, 8, "0");
            planIs(y, 13, "1");
            planIs(y, 6, "");
            // Fog on days 0 and 3: what was done is done again.
            OppositeShores z = Tell.told("deed 0 0;deed 0 1;pair 1;delay 0;weather 1 0 0;");
            planIs(z, 1, "01");
            planIs(z, 3, "0110");
            planIs(z, 4, "01101");
            planIs(z, 5, "");
            // Its own last deed alone makes it the same again, on day 0 none does.
            OppositeShores w = Tell.told("deed 0 0;deed 0 1;deed 0 0;opposite 2 1;pair 1;pair 1;delay 0;"
                    + "treaty again or deed=2 and pair=1;");
            planIs(w, 1, "11");
            planIs(w, 3, "1111");
            planIs(w, 4, "11111");
            planIs(w, 5, "");
            e.is("of pair 1", w.plan(1, 1) + Edges.plan(w), "12");
            e.is("of pair 0 still", w.plan(0, 1) + Edges.plan(w), "211");
        });
        e.test("just so much (-100 to 100): how many;", () -> {
            OppositeShores x = Tell.told("deed 0 20;deed 0 -20;pair 0;delay 0;");
            planIs(x, 100, "00000");
            planIs(x, -100, "11111");
            planIs(x, 99, "");
            e.illegalOutside("gifts", -100, 100, g -> x.plan(0, g));
        });
        e.test("of as short ones the first row by DEEDS' numbers; none.", () -> {
            OppositeShores x = Tell.told("deed 0 0;deed 0 1;deed 0 2;deed 0 1;deed 0 2;pair 0;delay 0;");
            planIs(x, 1, "1");
            planIs(x, 3, "12");
            planIs(x, 5, "122");
            planIs(x, -1, "");
        });
        e.test("(It is no SHIRKER.)", () -> {
            OppositeShores x = Tell.told("deed 0 0;deed 0 1;pair 0;delay 0;");
            x.shirk(0, true);
            planIs(x, 2, "11");
        });
    }

    private void wellAndExchange() {
        // By 1 both gain 5, but on the last day by 2 the one here gains 3.
        String good = "deed 0 0;deed 2 0;deed 3 0;deed 3 0;opposite 1 2;opposite 2 0;opposite 3 0;pair 0;";
        e.test("WELL: what a PAIR gains at the most, both together, in so many DAYS (1 to 6) from DAY 0 on,", () -> {
            OppositeShores x = Tell.told(good);
            e.row("well", i -> x.well(0, i + 1), 3, 8, 13, 18, 23, 28);
            e.illegalOutside("days", 1, 6, d -> x.well(0, d));
            OppositeShores y = Tell.told("deed -7 0;pair 0;delay 3;");
            e.row("below 0", i -> y.well(0, i + 1), -14, -28, -42, -56, -70, -84);
            OppositeShores z = Tell.told("deed 20 0;pair 0;delay 0;");
            e.is("most of all", z.well(0, 6), 240);
        });
        e.test("by any DEEDS HERE (those THERE by DELAY, WEATHER, TREATY; no SHIRKER).", () -> {
            OppositeShores x = Tell.told(good + "delay 3;weather 0;treaty day<1;");
            // Day 0's deed alone is answered, on day 3: 2 + 3 + 3 + 3, and 3 there.
            e.row("delay", i -> x.well(0, i + 1), 3, 6, 9, 14, 17, 20);
            x.shirk(0, true);
            e.is("no shirker", x.well(0, 4), 14);
            x.turn(0);
            e.is("fog", x.well(0, 4), 12);
            OppositeShores y = Tell.told("deed 0 0;".repeat(6) + "deed 9 0;deed 5 0;opposite 6 0;opposite 7 6;"
                    + "pair 0;pair 0;delay 0;treaty again and pair=0 and deed=7;");
            // Deed 6 gains 9 here; deed 7 gains 5, and 9 there, too, if it is done again.
            e.row("again", i -> y.well(0, i + 1), 9, 19, 33, 47, 61, 75);
            e.row("of pair 1", i -> y.well(1, i + 1), 9, 18, 27);
            // On day 0 nothing is done again: deed 7 alone, and not 5 here and 9 there.
            OppositeShores z = Tell.told("deed 0 0;" + "deed 5 0;".repeat(6) + "deed 9 0;opposite 0 7;opposite 1 7;"
                    + "opposite 2 7;opposite 3 7;opposite 4 7;opposite 5 7;opposite 6 7;pair 0;delay 0;treaty again;");
            e.row("not again on day 0", i -> z.well(0, i + 1), 9, 27, 45);
        });
        e.test("AN EXCHANGE of WAYS: each PAIR takes the WAY of one PAIR, each WAY by one: by which all those "
                + "THERE together GAIN most in so many DAYS (0 to 100),", this::exchanges);
        e.test("none of them less than now;", () -> {
            OppositeShores x = Tell.told("deed 0 0;deed 1 0;pair 1;pair 0;delay 0;"
                    + "treaty deed=1 and (pair=1 or day<10);");
            // By the other row pair 1 would gain 100, but pair 0 nothing in place of 10.
            e.row("exchange", i -> x.exchange(100, i - 1), 10, 0, 1);
            OppositeShores y = Tell.told("deed 0 0;deed 1 0;pair 1;pair 0;delay 0;treaty deed=1 and pair=1;");
            // Nobody has less: pair 0 gains nothing now, either.
            e.row("exchange", i -> y.exchange(100, i - 1), 100, 1, 0);
            OppositeShores z = Tell.told("deed 0 0;deed 1 0;pair 0;pair 0;pair 1;delay 0;"
                    + "treaty deed=1 and (pair<2 or day<10);");
            e.row("the last one would have less", i -> z.exchange(100, i - 1), 10, 0, 1, 2);
            OppositeShores w = Tell.told("deed 0 0;deed 1 0;pair 0;pair 1;pair 0;delay 0;"
                    + "treaty deed=1 and (pair=0 or pair=2 or day<10);");
            e.row("the second one would have less", i -> w.exchange(100, i - 1), 10, 0, 1, 2);
        });
        e.test("of like ones the first row (by PAIRS: whose WAY): how much; the row.", () -> {
            OppositeShores x = Tell.told("deed 1 0;" + "pair 0;".repeat(6));
            e.row("alike", i -> x.exchange(100, i - 1), 600, 0, 1, 2, 3, 4, 5);
            // Pair 0 gains nothing by any way; either of the others gains 100 by its way.
            OppositeShores y = Tell.told("deed 0 0;deed 1 0;pair 1;pair 0;pair 0;delay 0;treaty 0<pair;");
            e.row("either", i -> y.exchange(100, i - 1), 100, 1, 0, 2);
        });
    }

    private void exchanges() {
        // Pair p gains 5 a day by deed 6 - p alone, which is the way of pair 5 - p.
        OppositeShores x = Tell.told("deed 0 0;deed 0 0;deed 0 0;deed 0 0;deed 0 0;deed 0 0;deed 0 0;deed 5 0;"
                + "opposite 1 7;opposite 2 7;opposite 3 7;opposite 4 7;opposite 5 7;opposite 6 7;"
                + "pair 1;pair 2;pair 3;pair 4;pair 5;pair 6;delay 0;treaty deed=6-pair;");
        e.row("100 days", i -> x.exchange(100, i - 1), 3000, 5, 4, 3, 2, 1, 0);
        e.row("one day", i -> x.exchange(1, i - 1), 30, 5, 4, 3, 2, 1, 0);
        e.row("no days", i -> x.exchange(0, i - 1), 0, 0, 1, 2, 3, 4, 5);
        e.illegalOutside("days", 0, 100, d -> x.exchange(d, -1));
        // Both would gain by the way of pair 0, which only one can take.
        OppositeShores y = Tell.told("deed 0 0;deed 5 0;pair 1;pair 0;delay 0;");
        e.row("each way by one", i -> y.exchange(100, i - 1), 500, 0, 1);
        OppositeShores z = Tell.told("deed -2 0;pair 0;");
        e.row("one pair", i -> z.exchange(100, i - 1), -200, 0);
        // Ways of 1, 8 and 2 deeds: in 9 days they hold deed 1 never, twice, five times.
        OppositeShores w = Tell.told("deed 0 0;deed 5 0;pair 0;pair 1 0 0 0 0 0 0 0;pair 1 0;delay 0;treaty pair=0;");
        e.row("unlike lengths", i -> w.exchange(9, i - 1), 25, 2, 0, 1);
        e.is("no pairs", Tell.told("").exchange(100, -1), 0);
    }

    // ---- what was seen

    private void seen() {
        e.test("SEEN (at most 8): that one THERE did a DEED on a DAY.", () -> {
            OppositeShores x = Tell.told(ONE);
            for (int i = 1; i <= 8; i++) {
                e.is("see", x.see(0, 0, 0), i);
            }
            e.is("the ninth", x.see(0, 0, 1), -1);
            e.is("none of them is false", x.falsely(), 0);
        });
        e.test("FALSE: how many of these aren't so.", () -> {
            OppositeShores x = Tell.told(ONE);
            e.is("none seen", x.falsely(), 0);
            for (int i = 0; i < 8; i++) {
                x.see(0, 99, 0);
                e.is("false", x.falsely(), i + 1);
            }
            x.shirk(0, true);
            e.is("all are so", x.falsely(), 0);
        });
        e.test("WHAT HE DID: DEEDS by which, done HERE by one of a PAIR on a DAY in place of what he did (that may "
                + "be one of them), all SEEN would be so, as bits.", this::whatHeDid);
        e.test("THE NEXT MORNING: the DAY (the first of like ones) on which what the one THERE of this PAIR does "
                + "would be most unlike by these DEEDS: which; how many unlike DEEDS; none without such DEEDS.", () -> {
            OppositeShores x = Tell.told("deed 0 0;deed 0 0;deed 0 0;pair 0;delay 3;");
            e.row("day 3", i -> x.morning(0, 0, i), 3, 3);
            e.row("day 99", i -> x.morning(0, 96, i), 99, 3);
            e.row("none tells: the first", i -> x.morning(0, 97, i), 0, 1);
            x.see(0, 3, 2);
            e.row("one deed", i -> x.morning(0, 0, i), 0, 1);
            x.see(0, 3, 1);
            e.row("no deed", i -> x.morning(0, 0, i), -1, 0);
            // Day 1 was seen, day 2 does it again for fog: the first of both.
            OppositeShores y = Tell.told("deed 0 0;deed 0 0;pair 0;delay 0;weather 0 0 1;");
            e.row("the first of like ones", i -> y.morning(0, 1, i), 1, 2);
        });
        e.test("SHIRKERS FOUND: PAIRS of which, were the one THERE the other way about (a SHIRKER or not), all SEEN "
                + "would be so, as bits.", () -> {
            OppositeShores x = Tell.told(ONE + "pair 0;".repeat(5));
            e.is("nothing seen", x.found(), 63);
            e.is("no pairs", Tell.told("").found(), 0);
            x.see(5, 1, 0);
            e.is("pair 5 shirks", x.found(), 32);
            x.see(0, 1, 0);
            e.is("no one alone", x.found(), 0);
            x.shirk(0, true);
            e.is("pair 0 does already", x.found(), 32);
            x.shirk(5, true);
            // All is so: whoever is idle on day 1 must be a shirker, of the others nothing was seen.
            e.is("both do", x.found(), 30);
            x.forget();
            x.see(0, 1, 1);
            e.is("pair 0 doesn't", x.found(), 1);
            x.forget();
            x.see(0, 0, 1);
            e.is("on day 0 he couldn't", x.found(), 0);
            x.delay(0);
            e.is("by another delay he could", x.found(), 1);
        });
    }

    private void whatHeDid() {
        OppositeShores x = Tell.told("deed 0 0;".repeat(8) + "opposite 1 0;pair 7;pair 0;delay 0;");
        e.is("nothing seen", x.did(0, 0), 255);
        x.see(0, 0, 7);
        e.is("what he did is one", x.did(0, 0), 128);
        e.is("on the last day any", x.did(0, 99), 255);
        x.see(0, 99, 0);
        e.is("now none", x.did(0, 0), 0);
        e.is("two of like contraries", x.did(0, 99), 3);
        x.see(1, 50, 7);
        e.is("all seen, of the others, too", x.did(0, 99), 0);
        x.forget();
        x.see(1, 50, 1);
        // The contrary of 1 is to be idle: 1 is nobody's contrary.
        e.is("can't be", x.did(1, 50), 0);
        OppositeShores y = Tell.told("deed 0 0;deed 0 0;deed 0 0;opposite 0 2;opposite 1 2;pair 0 1;delay 0;treaty again;");
        e.is("nothing seen", y.did(0, 4), 7);
        y.see(0, 4, 2);
        // Here 0 1 0 1 0 1: by 1 on day 4 it would be as on day 3, by 0 on day 3 as on day 4.
        e.is("the same again", y.did(0, 4), 2);
        e.is("ahead of it the same", y.did(0, 3), 1);
        e.is("behind it nothing helps", y.did(0, 5), 0);
    }

    private void compared() {
        String two = "deed 0 0;deed 1 0;opposite 0 1;pair 0;pair 0;delay 0;";
        e.test("COMPARED by a TREATY (none, too): what all those THERE GAIN in 100 DAYS;", () -> {
            OppositeShores x = Tell.told(two + "treaty 0;treaty day<99 and pair;treaty day<1;");
            e.row("compared", i -> x.compared(i - 1), 200, 0, 99, 2);
            e.is("no pairs", Tell.told("treaty 1;").compared(0), 0);
        });
        e.test("THE BEST TREATY: by which it is most (of like ones none ahead of TREATIES in their order).", () -> {
            e.is("none of like ones", Tell.told(two + "treaty 1;treaty 1;").best(), -1);
            e.is("without any", Tell.told(two).best(), -1);
            String bad = "deed 0 0;deed -1 0;opposite 0 1;pair 0;delay 0;";
            e.is("the first of like ones", Tell.told(bad + "treaty 1;treaty 0;treaty 0;").best(), 1);
            e.is("the last", Tell.told(bad + "treaty day<3;treaty day<2;treaty day<1;").best(), 2);
            e.is("one", Tell.told(bad + "treaty 0;").best(), 0);
        });
        e.test("DELAYED: by which DELAY (0 to 3) the STORE of THERE is most at the end of DAY 99 "
                + "(of like ones the least).", () -> {
            e.is("0", Tell.told("deed 0 0;deed 0 1;opposite 0 1;pair 0;").delayed(), 0);
            e.is("3", Tell.told("deed 0 1;deed 0 0;opposite 0 1;pair 0;").delayed(), 3);
            e.is("like ones", Tell.told("deed 0 1;pair 0;delay 2;").delayed(), 0);
            // What was done on day 99 (on day 98) is answered too late by 1 (by 2), which is well.
            e.is("1", Tell.told("deed 0 0;deed 0 -1;opposite 0 1;pair 0;treaty day=99;").delayed(), 1);
            e.is("2", Tell.told("deed 0 0;deed 0 -1;opposite 0 1;pair 0;treaty day=98;").delayed(), 2);
            e.is("no pairs", Tell.told("delay 3;").delayed(), 0);
        });
        e.test("HARMS: the place of the WEATHER (of like ones the first) by whose turning over all those THERE GAIN "
                + "most in 100 DAYS more than now; none, if by none more.", () -> {
            String fog = "deed 0 0;deed 1 0;opposite 0 1;pair 0;delay 0;weather ";
            // 1 for ever from the first clear day on.
            e.is("the first", Tell.told(fog + "1 1 1;").harms(), 0);
            e.is("all is well", Tell.told(fog + "0 1 1;").harms(), -1);
            e.is("no weather", Tell.told("deed 0 0;deed 1 0;opposite 0 1;pair 0;").harms(), -1);
            String bad = "deed 0 0;deed -1 0;opposite 0 1;pair 0;delay 0;weather ";
            e.is("less by fog on day 0", Tell.told(bad + "0 0;").harms(), 0);
            e.is("by the last of ten", Tell.told(bad + "1 1 1 1 1 1 1 1 1 0;").harms(), 9);
            e.is("no clear day more", Tell.told(bad + "1 1;").harms(), -1);
            // Deed 1 is done here on days of fog: 17 of them are of place 1, 17 of place 3, 16 of place 5.
            e.is("like ones", Tell.told("deed 0 0;deed 1 0;pair 0 1;delay 0;weather 0 1 0 1 0 1;").harms(), 1);
        });
    }

    private void games() {
        // Deeds 1, 2, 3 gain 4, 5, 6 here; there they are answered by 0, which gains nothing.
        String game = "deed 0 0;deed 4 0;deed 5 0;deed 6 0;opposite 1 0;opposite 2 0;opposite 3 0;pair 0;pair 0;";
        e.test("A GAME of two PAIRS on a DAY: each one HERE does one of two told DEEDS (the first, the second: 0, 1) "
                + "on it in place of what he does: he gains the GAIN of it,", () -> {
            OppositeShores x = Tell.told(game);
            e.row("6 less 5 is more than 0", i -> x.game(0, 1, 0, 3, i), 1, 11);
            e.row("told the other way about", i -> x.game(0, 1, 0, 30, i), 1, 0);
        });
        e.test("and what his double GAINS DELAY later (if that is within DAY 99),", () -> {
            // By deed 1 the double gains 9 (and 0 here).
            String late = "deed 0 0;deed 0 0;deed 9 0;opposite 1 2;pair 0;pair 0;delay ";
            OppositeShores x = Tell.told(late + "3;");
            e.row("day 96", i -> x.game(0, 1, 96, 1, i), 1, 11);
            e.row("day 97", i -> x.game(0, 1, 97, 1, i), 2, 1);
            OppositeShores y = Tell.told(late + "0;");
            e.row("day 99", i -> y.game(0, 1, 99, 1, i), 1, 11);
            y.shirk(1, true);
            // To pair 1 both are worth nothing then, so it takes what pair 0 leaves.
            e.row("a shirker", i -> y.game(0, 1, 99, 1, i), 1, 10);
            e.row("a shirker as the first", i -> y.game(1, 0, 99, 1, i), 1, 1);
        });
        e.test("but loses 5, if both do one DEED.", () -> {
            OppositeShores x = Tell.told(game);
            e.row("4 less 5 is less than 0", i -> x.game(0, 1, 0, 1, i), 2, 1);
            e.row("6 less 5 is more", i -> x.game(0, 1, 0, 3, i), 1, 11);
            e.row("one deed told twice", i -> x.game(0, 1, 0, 33, i), 4, 0);
        });
        e.test("A couple RESTS, if neither gains more by the other choice: how many; the first "
                + "(10 by the first one's and the other one's).", () -> {
            OppositeShores x = Tell.told(game);
            // 5 less 5 is as much as 0: neither gains more.
            e.row("alike", i -> x.game(0, 1, 0, 2, i), 3, 1);
            e.row("alike, the other way about", i -> x.game(0, 1, 0, 20, i), 3, 0);
            e.row("all four", i -> x.game(0, 1, 0, 0, i), 4, 0);
            e.row("both the second", i -> x.game(0, 1, 0, 3, i), 1, 11);
            // By a treaty for pair 1 alone its double gains 9 by deed 1: to pair 0 both are alike.
            OppositeShores y = Tell.told("deed 0 0;deed 0 0;deed 9 0;opposite 1 2;pair 0;pair 0;treaty pair=1;");
            e.row("the first the first, the other the second", i -> y.game(0, 1, 0, 1, i), 1, 1);
            e.row("the other way about", i -> y.game(1, 0, 0, 1, i), 1, 10);
        });
    }

    /** By seed 0 days 0, 1, 2 of the first ten are of fog; by seed 1 day 8. */
    private void years() {
        e.test("YEARS by a seed: n DAYS (0 to 100) in which the WEATHER of each DAY is a DRAW of 4 (0 is fog, all "
                + "else is clear), one after the other: the STORE of THERE at the end, of HERE;", () -> {
            OppositeShores x = Tell.told("deed 0 2;deed 0 1;opposite 0 1;pair 0;delay 0;weather 1;");
            e.row("there", i -> x.years(0, i, 0), 0, 2, 4, 6, 7, 8, 9, 10, 11, 12, 13);
            e.row("here", i -> x.years(0, i, 1), 0, 2, 4, 6, 8, 10);
            e.is("here, 100 days", x.years(0, 100, 1), 200);
            e.illegalOutside("n", 0, 100, n -> x.years(0, n, 0));
            // No fog on day 0 by seed 1: he does 1 for ever.
            e.is("there, 100 days", x.years(1, 100, 0), 100);
            e.is("the weather stays", x.fog(3), true);
            e.is("no pairs", Tell.told("").years(0, 100, 0), 0);
        });
        e.test("on how many DAYS some one THERE did again what he did for fog.", () -> {
            OppositeShores x = Tell.told(ONE);
            // By delay 1 what is fog on days 0, 1, 2 is done again on days 1, 2, 3.
            e.row("days", i -> x.years(0, i, 2), 0, 0, 1, 2, 3, 3, 3, 3);
            x.delay(3);
            e.row("days", i -> x.years(0, i, 2), 0, 0, 0, 0, 1, 2, 3, 3);
            x.delay(0);
            e.row("days", i -> x.years(0, i, 2), 0, 1, 2, 3, 3);
            e.row("by seed 1", i -> x.years(1, i + 7, 2), 0, 0, 1, 1);
            OppositeShores y = Tell.told(ONE + "pair 0;pair 0;delay 0;");
            e.is("a day counts once", y.years(0, 3, 2), 3);
            e.is("without any one", Tell.told("deed 0 0;").years(0, 100, 2), 0);
        });
        e.test("A seed becomes itself times 1103515245 and 12345 (an int that wraps); a DRAW of n is its bits 16 to "
                + "30 MOD n then.", this::draws);
    }

    private void draws() {
        OppositeShores x = Tell.told("deed 0 0;deed 0 1;opposite 0 1;pair 0;delay 0;");
        for (int seed : new int[] {0, 1, -1, 12345, Integer.MAX_VALUE, Integer.MIN_VALUE}) {
            long state = seed;
            int fogs = 0;
            for (int day = 0; day < 100; day++) {
                // The state is kept as a number from 0 on, of which bits 16 and 17 tell.
                state = Math.floorMod(state * 1103515245L + 12345L, 1L << 32);
                fogs += state / 65536 % 32768 % 4 == 0 ? 1 : 0;
                e.is("seed " + seed + ", " + (day + 1) + " days", x.years(seed, day + 1, 2), fogs);
            }
            x = Tell.told("deed 0 0;deed 0 1;opposite 0 1;pair 0;delay 0;");
        }
    }

    // ---- rings, ways, years

    private void ringsAndIdle() {
        e.test("A RING of a DEED: how many unlike DEEDS there are, if one goes on from it to its OPPOSITE, to the "
                + "OPPOSITE of that, and so on (with it).", () -> {
            OppositeShores x = Tell.told("deed 0 0;".repeat(8) + "opposite 0 1;opposite 1 2;opposite 2 3;"
                    + "opposite 3 4;opposite 4 5;opposite 5 6;opposite 6 7;opposite 7 0;");
            e.row("all eight", x::ring, 8, 8, 8, 8, 8, 8, 8, 8);
            OppositeShores y = Tell.told("deed 0 0;".repeat(8) + "opposite 0 1;opposite 1 2;opposite 2 3;"
                    + "opposite 3 4;opposite 4 5;opposite 5 6;opposite 6 7;");
            e.row("to one that is its own", y::ring, 8, 7, 6, 5, 4, 3, 2, 1);
        });
        e.test("IDLE is one of a PAIR on so many of the DAYS 0 to 99.", () -> {
            OppositeShores x = Tell.told(ONE);
            e.is("always", x.idle(0, 0), 100);
            e.is("day 0", x.idle(0, 1), 1);
            x.delay(0);
            e.is("never", x.idle(0, 1), 0);
        });
        e.test("WAVES on a DAY: PAIRS of which both do one DEED.", () -> {
            OppositeShores x = Tell.told("deed 0 0;deed 0 0;" + "pair 1;".repeat(5) + "pair 1 0;");
            // On day 0 those there are idle; from day 1 on the last one does what was done the day ahead.
            e.row("waves", x::waves, 0, 31, 31);
            e.is("day 99", x.waves(99), 31);
            x.delay(0);
            e.row("all", x::waves, 63, 63);
            e.is("no pairs", Tell.told("").waves(0), 0);
        });
        e.test("RUINED: the PAIR of which the one THERE GAINS least in 100 DAYS (of like ones the least); none.", () -> {
            String text = "deed 0 0;deed 1 0;opposite 0 1;" + "pair 0;".repeat(6) + "delay 0;treaty ";
            e.is("alike", Tell.told(text + "1;").ruined(), 0);
            e.is("the last by a day", Tell.told(text + "not (pair=5 and day=99);").ruined(), 5);
            e.is("two of like ones", Tell.told(text + "pair<3;").ruined(), 3);
            e.is("none", Tell.told("deed 0 0;").ruined(), -1);
        });
    }

    private void ways() {
        e.test("TO STOP for a PAIR: the DEED (not 0, one that its WAY has) that, being idle in its place wherever the "
                + "WAY has it, the one THERE GAINS most in 100 DAYS by, if it is more than now (of like ones the least); "
                + "none.", () -> {
            String text = "deed 0 0;deed -1 0;deed -1 0;deed -2 0;deed -9 0;deed 1 0;delay 0;pair ";
            e.is("the least of like ones", Tell.told(text + "2 1;").stop(0), 1);
            e.is("wherever it stands", Tell.told(text + "1 2 2 2 1 2;").stop(0), 2);
            e.is("the worse", Tell.told(text + "1 3 2;").stop(0), 3);
            e.is("none is more", Tell.told(text + "5 0;").stop(0), -1);
            // Deed 4 would be worth most, but it isn't there.
            e.is("one that the way has", Tell.told(text + "2;").stop(0), 2);
            e.is("no change is no more", Tell.told(text + "0;").stop(0), -1);
            // To be idle is answered by what gains as much: by that it isn't more.
            e.is("as much", Tell.told("deed 0 0;deed 0 0;deed 3 0;opposite 0 2;opposite 1 2;delay 0;pair 1;").stop(0), -1);
        });
        e.test("A CHANGE of two places of a WAY (the lesser first) by which the one THERE GAINS most in 100 DAYS, if "
                + "it is more than now (of like ones the first): 10 by the one and the other; none.", () -> {
            // One treaty day alone: on it the way's place must be that of deed 1.
            String text = "deed 0 0;deed 1 0;delay 0;treaty day=";
            e.is("0 and 7", Tell.told(text + "0;pair 0 0 0 0 0 0 0 1;").swap(0), 7);
            e.is("6 and 7", Tell.told(text + "6;pair 0 0 0 0 0 0 0 1;").swap(0), 67);
            e.is("the first of like ones", Tell.told(text + "0;pair 0 0 1 1 1;").swap(0), 2);
            e.is("the first of like ones", Tell.told(text + "4;pair 1 1 1 0 0;").swap(0), 4);
            e.is("none is more", Tell.told(text + "7;pair 0 0 0 0 0 0 0 1;").swap(0), -1);
            e.is("one place", Tell.told(text + "0;pair 0;").swap(0), -1);
            e.is("no other pair's", Tell.told(text + "0;pair 0 0 0 0 0 0 0 0;pair 1;").swap(0), -1);
            OppositeShores x = Tell.told(text + "0;pair 0 1 1;");
            e.is("of three", x.swap(0), 1);
            Tell.tell(x, text + "0;pair 0;");
            e.is("none of a text ahead", x.swap(0), -1);
        });
    }

    private void yearsAndSpells() {
        String daily = "deed 0 0;deed 0 0;opposite 0 1;pair 0;delay 0;treaty ";
        e.test("A YEAR of a PAIR: the least number (1 to 50) so that the one THERE does on each DAY from 50 to 99 what "
                + "he did so many DAYS ahead; none.", () -> {
            e.is("one", Tell.told(daily + "1;").year(0), 1);
            e.is("two", Tell.told(daily + "day/2*2=day;").year(0), 2);
            e.is("fifty", Tell.told(daily + "day=0 or day=50;").year(0), 50);
            e.is("49", Tell.told(daily + "day=1 or day=50 or day=99;").year(0), 49);
            e.is("day 50 alone", Tell.told(daily + "day=50;").year(0), -1);
            e.is("day 99 alone", Tell.told(daily + "day=99;").year(0), -1);
            e.is("day 49 is the day ahead of 50", Tell.told(daily + "day=49;").year(0), -1);
            e.is("day 48 is of no account", Tell.told(daily + "day<49;").year(0), 1);
        });
        e.test("A SPELL: the most DAYS of fog one behind the other (of DAYS 0 to 99); the first DAY of the first such "
                + "one.", () -> {
            e.row("none", Tell.told("weather 0;")::spell, 0, -1);
            e.row("all", Tell.told("weather 1;")::spell, 100, 0);
            e.row("the first of like ones", Tell.told("weather 0 1;")::spell, 1, 1);
            e.row("over the end of the weather", Tell.told("weather 1 1 0 1;")::spell, 3, 3);
            e.row("nine of ten", Tell.told("weather 0 1 1 1 1 1 1 1 1 1;")::spell, 9, 1);
        });
        e.test("WHOM a DEED helps: PAIRS of which the one THERE would GAIN more than now in 100 DAYS, were it all that "
                + "the one HERE ever does, as bits.", () -> {
            OppositeShores x = Tell.told("deed 0 0;deed 1 0;deed -1 0;pair 0;pair 1;pair 2;pair 1 2;pair 0;pair 2;");
            e.is("0", x.helps(0), 4 + 32);
            e.is("1", x.helps(1), 1 + 4 + 8 + 16 + 32);
            e.is("2", x.helps(2), 0);
            e.is("no pairs", Tell.told("deed 0 0;").helps(0), 0);
            OppositeShores y = Tell.told("deed 0 0;deed 1 0;opposite 0 1;pair 1;");
            e.is("as much", y.helps(0), 0);
            y.delay(3);
            e.is("as much by another delay", y.helps(0), 0);
        });
        e.test("STATUS: how many calls were refused: 0 of TEXTS with a FAULT, 1 of ACTS, 2 of what is SEEN.", () -> {
            OppositeShores x = Tell.told(ONE);
            e.row("none", i -> x.count(10 + i), 0, 0, 0);
            Tell.tell(x, "#");
            e.row("text", i -> x.count(10 + i), 1, 0, 0);
            x.change(0, 1, 0);
            x.turn(0);
            x.delay(4);
            x.sign(0);
            x.shirk(0, false);
            e.row("acts", i -> x.count(10 + i), 1, 5, 0);
            for (int i = 0; i < 11; i++) {
                x.see(0, 0, 0);
            }
            e.row("seen", i -> x.count(10 + i), 1, 5, 3);
            Tell.tell(x, "##");
            e.row("text", i -> x.count(10 + i), 2, 5, 3);
            x.undo();
            x.restore();
            e.row("these are no acts", i -> x.count(10 + i), 2, 5, 3);
        });
    }
}
