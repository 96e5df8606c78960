import java.util.function.BiFunction;

/** The edges of each call of the face: wrong inputs, refused calls, what they leave as it was. */
final class CallEdges {
    /** Two deeds, two pairs, three places of weather, two treaties. */
    private static final String TEXT = "deed 0 0;deed 1 1;opposite 0 1;pair 0;pair 0 1 1;weather 0 0 1;"
            + "treaty 1;treaty 0;";
    private static final int FAR = Integer.MAX_VALUE;
    private static final int BLANKS = 0x20202020;

    private final Edges e;

    CallEdges(Edges edges) {
        e = edges;
    }

    void run() {
        tape();
        shores();
        counts();
        whatIs();
        acts();
        undo();
        sums();
        plans();
        seen();
        trials();
        games();
        rest();
        images();
    }

    /** A call that throws, or is refused without being counted. */
    private void changesNothing(String what, OppositeShores x, Runnable call) {
        String before = Edges.stateAndAll(x);
        call.run();
        e.is(what + " changes nothing", Edges.stateAndAll(x), before);
    }

    // ---- texts

    private void tape() {
        e.promise(1);
        e.test("No DEEDS, no PAIRS.", () -> {
            OppositeShores x = new OppositeShores();
            e.row("count", x::count, 0, 0, 0, 1, 0, -1, 0, 0, 0, 0, 0, 0, 0);
            e.none("deed 0", () -> x.deed(0, 0));
            e.none("pair 0", () -> x.way(0, -1));
            e.none("ring", () -> x.ring(0));
            e.none("does", () -> x.does(0, 0, 0));
            e.is("fault", x.fault(), -1);
            e.is("fog", x.fog(0), false);
            e.is("store", x.store(1, 99), 0);
            e.is("undo", x.undo(), -1);
            e.is("restore", x.restore(), false);
        });
        e.promise(2);
        e.test("Twenty bytes come behind the tape, of each number the highest first: how many it has;", () -> {
            OppositeShores x = new OppositeShores();
            e.is("blanks", x.feed(BLANKS, BLANKS, BLANKS, BLANKS, BLANKS), 20);
            // "deed -1 2;" and behind it bytes from 0 to 255.
            e.is("forty", x.feed(0x64656564, 0x202d3120, 0x323b00ff, Integer.MIN_VALUE, -1), 40);
            e.is("the first thirty", x.shores(30), 0);
            e.is("gain", x.deed(0, 0), -1);
            e.is("gift", x.deed(0, 1), 2);
            e.is("anew", x.feed(0x20202020, 0x20202020, 0x20202020, 0x20202020, 0x202020ff), 20);
            e.is("the last byte", x.shores(20), 1);
            e.is("its place", x.fault(), 19);
        });
        e.test("NONE, and none come, if it would have more than 700.", () -> {
            OppositeShores x = new OppositeShores();
            for (int i = 1; i < 35; i++) {
                e.is("feed", x.feed(BLANKS, BLANKS, BLANKS, BLANKS, BLANKS), 20 * i);
            }
            // "          deed 7 7; " is the last that has room.
            e.is("700", x.feed(BLANKS, BLANKS, 0x20206465, 0x65642037, 0x20373b20), 700);
            changesNothing("too much", x, () -> e.is("too much", x.feed(0, 0, 0, 0, 0), -1));
            e.is("once more", x.feed(BLANKS, BLANKS, BLANKS, BLANKS, BLANKS), -1);
            e.is("all 700", x.shores(700), 0);
            e.is("its last bytes", x.deed(0, 0), 7);
            e.is("room again", x.feed(0, 0, 0, 0, 0), 20);
        });
    }

    private void shores() {
        e.promise(3);
        e.test("The tape's first n bytes (it is empty then) are SHORES, all anew:", () -> {
            OppositeShores x = Tell.told(TEXT);
            Tell.feed(x, "deed 5 5;#");
            e.is("nine of twenty", x.shores(9), 0);
            e.is("empty", x.count(9), 0);
            e.row("anew", x::count, 1, 0, 0, 1, 0, -1, 0);
            e.is("gain", x.deed(0, 0), 5);
            e.is("none of an empty tape", x.shores(0), 0);
            e.is("no deeds", x.count(0), 0);
            Tell.feed(x, TEXT);
            e.is("none of a tape", x.shores(0), 0);
            e.is("empty", x.count(9), 0);
            e.is("no deeds", x.count(0), 0);
            cutWithin();
            toldAnew();
        });
        e.test("0, or the FAULT (all stays).", this::faultChangesNothing);
        e.test("ACTS, what is SEEN, rows that are kept, the image are gone (STATUS stays).", () -> {
            OppositeShores x = busy();
            e.is("refused ahead", Edges.refused(x), "1 1 1");
            e.is("the same text", Tell.tell(x, TEXT), 0);
            e.is("acts", x.count(7), 0);
            e.is("no act to be undone", x.undo(), -1);
            e.is("shirkers", x.count(6), 0);
            e.is("delay", x.count(3), 1);
            e.is("treaty", x.count(5), 0);
            e.is("seen", x.count(8), 0);
            e.is("false", x.falsely(), 0);
            e.is("row", Edges.plan(x), "");
            e.is("image", x.restore(), false);
            e.is("status", Edges.refused(x), "1 1 1");
        });
        e.test("IllegalArgumentException: the tape has not so many, n below 0 (nothing changes).", () -> {
            OppositeShores x = busy();
            Tell.feed(x, "#");
            for (int n : new int[] {21, -1, Integer.MIN_VALUE, FAR}) {
                changesNothing("n " + n, x, () -> e.illegal("n " + n, () -> x.shores(n)));
            }
            e.is("twenty", x.shores(20), 1);
            e.illegal("one of none", () -> new OppositeShores().shores(1));
        });
        e.promise(4);
        e.test("The place of the latest shores()'s FAULT; NONE without.", () -> {
            OppositeShores x = new OppositeShores();
            e.is("new", x.fault(), -1);
            Tell.tell(x, "#");
            e.is("the first byte", x.fault(), 0);
            Tell.tell(x, "deed 0 ");
            e.is("the end", x.fault(), 7);
            e.illegal("refused", () -> x.shores(1));
            e.is("the end still", x.fault(), 7);
            Tell.tell(x, "");
            e.is("without", x.fault(), -1);
        });
    }

    /** A word or a number ends where the first n bytes end. */
    private void cutWithin() {
        OppositeShores x = new OppositeShores();
        Tell.feed(x, "treaty day;");
        e.is("of a word", x.shores(9) + " at " + x.fault(), "3 at 7");
        Tell.feed(x, "treaty days;");
        e.is("a word", x.shores(10) + " at " + x.fault(), "1 at 10");
        Tell.feed(x, "weather 12;");
        e.is("of a number", x.shores(9) + " at " + x.fault(), "1 at 9");
        Tell.feed(x, "treaty 12345");
        e.is("of a long number", x.shores(11) + " at " + x.fault(), "1 at 11");
    }

    /** Nothing of the text ahead counts in the next one, nor does what was found by it. */
    private void toldAnew() {
        String text = "deed 0 0;deed 0 1;opposite 0 1;pair 0;weather 0;delay 0;treaty ";
        OppositeShores x = new OppositeShores();
        e.is("first", Tell.tell(x, text + "day=1;treaty 0;"), 0);
        e.row("first", i -> x.does(0, 1, i), 0, 1, 0);
        e.is("second", Tell.tell(x, text + "not day=1;"), 0);
        e.row("second", i -> x.does(0, 1, i), 1, 0, 1);
        e.is("a fault", Tell.tell(x, text + "1;opposite 1 0;weather 0;"), 5);
        e.row("second still", i -> x.does(0, 1, i), 1, 0, 1);
        e.is("third", Tell.tell(x, text + "2<day;treaty 1;treaty 1;"), 0);
        e.row("third", i -> x.does(0, 1, i), 0, 0, 0, 1);
        e.row("counts", x::count, 2, 1, 1, 0, 3, 0);
        e.is("longer", Tell.tell(x, text + "not 0;"), 0);
        e.is("longer", x.does(0, 1, 0), 1);
        e.is("shorter", Tell.tell(x, text + "1;"), 0);
        e.is("shorter", x.does(0, 1, 0), 1);
        e.is("fourth", Tell.tell(x, "deed 0 0;pair 0 0;"), 0);
        e.is("its way", x.way(0, -1), 2);
        e.is("its delay", x.must(0, 0), -1);
        e.row("counts", x::count, 1, 1, 0, 1, 0, -1);
    }

    /** An object of TEXT that has acts, shirkers, things seen, a row, an image, refused calls. */
    private static OppositeShores busy() {
        OppositeShores x = Tell.told(TEXT);
        Tell.tell(x, "#");
        x.delay(2);
        x.shirk(1, true);
        x.sign(1);
        x.sign(2);
        for (int i = 0; i < 9; i++) {
            x.see(0, i, 1);
        }
        x.image();
        x.undo();
        x.plan(0, 2);
        return x;
    }

    private void faultChangesNothing() {
        OppositeShores x = busy();
        String before = Edges.state(x);
        e.is("fault", Tell.tell(x, "deed 9 9;pair 0;weather 1;delay 0;treaty 0;opposite 0 0;treaty"), 1);
        e.is("empty", x.count(9), 0);
        e.is("all stays", Edges.state(x), before);
        e.is("a text was refused", Edges.refused(x), "2 1 1");
        e.is("acts stay", x.undo(), 1);
        e.is("the image stays", x.restore(), true);
        e.is("treaties stay", x.does(0, 1, 9), 0);
        e.is("0 without a fault", Tell.tell(x, ""), 0);
    }

    // ---- what is

    private void counts() {
        e.promise(5);
        e.test("0 DEEDS, 1 PAIRS, 2 numbers of the WEATHER, 3 DELAY, 4 TREATIES, 5 the TREATY in force (NONE), "
                + "6 SHIRKERS (bits), 7 ACTS that are kept, 8 SEEN, 9 bytes of the tape, 10 to 12 STATUS 0 to 2.", () -> {
            OppositeShores x = Tell.told("deed 0 0;".repeat(8) + "pair 0;".repeat(6)
                    + "weather 0 0 0 0 0 0 0 0 0 0;delay 3;treaty 1;treaty 1;treaty 1;");
            for (int pair = 0; pair < 6; pair++) {
                x.shirk(pair, true);
            }
            for (int i = 0; i < 40; i++) {
                x.sign(i % 3);
                x.see(0, 0, 0);
                x.turn(10);
            }
            for (int i = 0; i < 36; i++) {
                x.feed(0, 0, 0, 0, 0);
            }
            e.row("full", x::count, 8, 6, 10, 3, 3, 0, 63, 40, 8, 700, 0, 40, 32);
            x.sign(-1);
            e.is("none in force", x.count(5), -1);
            x.shores(700);
            e.is("a fault more", x.count(10), 1);
            OppositeShores y = Tell.told("");
            e.row("empty", y::count, 0, 0, 0, 1, 0, -1, 0, 0, 0, 0, 0, 0, 0);
        });
        e.test("NoSuchElementException: another what.", () ->
                e.noneOutside("what", 0, 12, Tell.told(TEXT)::count));
    }

    private void whatIs() {
        e.promise(6);
        e.test("Of a DEED: 0 GAIN, 1 GIFT, 2 OPPOSITE, 3 whether it is the OPPOSITE of its OPPOSITE (1).", () -> {
            OppositeShores x = Tell.told("deed 1 2;deed 0 0;deed 0 0;deed 0 0;opposite 0 1;opposite 1 0;opposite 2 0;");
            e.row("deed 0", i -> x.deed(0, i), 1, 2, 1, 1);
            e.row("3", i -> x.deed(i, 3), 1, 1, 0, 1);
        });
        e.test("NoSuchElementException: no such DEED (as everywhere), what.", this::noSuchDeed);
        e.promise(7);
        e.test("The i-th DEED of a PAIR's WAY; how many it has (i NONE).", () -> {
            OppositeShores x = Tell.told(TEXT);
            e.row("pair 0", i -> x.way(0, i - 1), 1, 0);
            e.row("pair 1", i -> x.way(1, i - 1), 3, 0, 1, 1);
        });
        e.test("NoSuchElementException: no such PAIR (as everywhere), DEED of it.", this::noSuchPair);
        e.promise(8);
        e.test("Whether a DAY is one of fog. NoSuchElementException: no such DAY (as everywhere).", this::noSuchDay);
        e.promise(9);
        e.test("The DEED of the one HERE (side 0), THERE (1) on a DAY. NoSuchElementException: also another side.", () -> {
            OppositeShores x = Tell.told(TEXT);
            e.row("day 0", i -> x.does(0, i, 0), 0, 0);
            e.row("day 99", i -> x.does(0, i, 99), 0, 1);
            e.noneOutside("side", 0, 1, s -> x.does(0, s, 0));
        });
        e.promise(10);
        e.test("What the one THERE MUST do on a DAY: the DEED (for a SHIRKER, too; for fog what he does again, "
                + "0 on DAY 0);", () -> {
            OppositeShores x = Tell.told(TEXT);
            e.row("must", i -> x.must(0, i), -1, 1, 1, 1);
            x.shirk(0, true);
            // On day 3, for the fog of day 2, he does again nothing.
            e.row("a shirker must", i -> x.must(0, i), -1, 1, 1, 0, 1);
            OppositeShores y = Tell.told("deed 0 0;deed 0 0;opposite 0 1;pair 0;delay 0;weather 1 0 1;");
            e.row("fog on day 0", i -> y.must(0, i), 0, 1, 1, 1, 1);
        });
        e.test("NONE: he is FREE, or there was no DEED.", () -> {
            OppositeShores x = Tell.told(TEXT + "delay 3;");
            e.row("no deed", i -> x.must(0, i), -1, -1, -1, 1);
            x.sign(1);
            // On day 5, for the fog of day 2, he must be idle again: that isn't to be free.
            e.row("free", i -> x.must(0, 3 + i), -1, -1, 0, -1);
        });
        e.promise(11);
        e.test("The STORE of HERE (side 0), THERE (1) at the end of a DAY. NoSuchElementException: also another side.", () -> {
            OppositeShores x = Tell.told("deed 0 0;deed 0 1;opposite 0 1;pair 0;delay 0;");
            e.row("day 0", i -> x.store(i, 0), 0, 1);
            e.row("day 99", i -> x.store(i, 99), 0, 100);
            e.noneOutside("side", 0, 1, s -> x.store(s, 0));
        });
    }

    private void noSuchDeed() {
        OppositeShores x = Tell.told(TEXT);
        e.noneOutside("deed", 0, 1, d -> x.deed(d, 0));
        e.noneOutside("what", 0, 3, w -> x.deed(0, w));
        e.noneOutside("change", 0, 1, d -> x.change(0, 0, d));
        e.noneOutside("see", 0, 1, d -> x.see(0, 0, d));
        e.noneOutside("ring", 0, 1, x::ring);
        e.noneOutside("helps", 0, 1, x::helps);
        e.noneOutside("game", 0, 1, d -> x.game(0, 1, 0, d, 0));
        OppositeShores full = Tell.told("deed 0 0;".repeat(8));
        e.noneOutside("deed of eight", 0, 7, d -> full.deed(d, 0));
        e.noneOutside("ring of eight", 0, 7, full::ring);
    }

    private void noSuchPair() {
        OppositeShores x = Tell.told(TEXT);
        e.noneOutside("place", -1, 0, i -> x.way(0, i));
        e.noneOutside("place", -1, 2, i -> x.way(1, i));
        e.noneOutside("way", 0, 1, p -> x.way(p, -1));
        e.noneOutside("does", 0, 1, p -> x.does(p, 0, 0));
        e.noneOutside("must", 0, 1, p -> x.must(p, 0));
        e.noneOutside("change", 0, 1, p -> x.change(p, 0, 0));
        e.noneOutside("shirk", 0, 1, p -> x.shirk(p, true));
        e.noneOutside("gained", 0, 1, p -> x.gained(p, 0, 0));
        e.noneOutside("fines", 0, 1, p -> x.fines(p, 0));
        e.noneOutside("unanswered", 0, 1, x::unanswered);
        e.noneOutside("plan", 0, 1, p -> x.plan(p, 0));
        e.noneOutside("well", 0, 1, p -> x.well(p, 1));
        e.noneOutside("exchange", -1, 1, p -> x.exchange(0, p));
        e.noneOutside("see", 0, 1, p -> x.see(p, 0, 0));
        e.noneOutside("did", 0, 1, p -> x.did(p, 0));
        e.noneOutside("morning", 0, 1, p -> x.morning(p, 0, 0));
        e.noneOutside("idle", 0, 1, p -> x.idle(p, 0));
        e.noneOutside("stop", 0, 1, x::stop);
        e.noneOutside("swap", 0, 1, x::swap);
        e.noneOutside("year", 0, 1, x::year);
        OppositeShores full = Tell.told("deed 0 0;" + "pair 0 0 0 0 0 0 0 0;".repeat(6));
        e.noneOutside("way of six", 0, 5, p -> full.way(p, 7));
        e.noneOutside("place of eight", -1, 7, i -> full.way(5, i));
        e.noneOutside("exchange of six", -1, 5, p -> full.exchange(100, p));
    }

    private void noSuchDay() {
        OppositeShores x = Tell.told(TEXT);
        e.row("fog", i -> x.fog(i) ? 1 : 0, 0, 0, 1, 0);
        e.noneOutside("fog", 0, 99, x::fog);
        e.noneOutside("does", 0, 99, d -> x.does(0, 1, d));
        e.noneOutside("must", 0, 99, d -> x.must(0, d));
        e.noneOutside("store", 0, 99, d -> x.store(0, d));
        e.noneOutside("see", 0, 99, d -> x.see(0, d, 0));
        e.noneOutside("did", 0, 99, d -> x.did(0, d));
        e.noneOutside("morning", 0, 99, d -> x.morning(0, d, 0));
        e.noneOutside("game", 0, 99, d -> x.game(0, 1, d, 1, 0));
        e.noneOutside("waves", 0, 99, x::waves);
    }

    // ---- acts

    /** Calls that are refused answer this, are counted as refused ACTS, and change nothing else. */
    private void refuses(String what, Object due, BiFunction<OppositeShores, Integer, Object> call, int... wrong) {
        for (int i : wrong) {
            OppositeShores x = busy();
            String before = Edges.state(x);
            e.is(what + " " + i, call.apply(x, i), due);
            e.is(what + " " + i + " is counted", Edges.refused(x), "1 2 1");
            e.is(what + " " + i + " changes nothing", Edges.state(x), before);
        }
    }

    private void acts() {
        e.promise(12);
        e.test("A WAY's i-th DEED becomes another: as it was.", () -> {
            OppositeShores x = Tell.told(TEXT);
            e.is("first", x.change(1, 0, 1), 0);
            e.is("last", x.change(1, 2, 0), 1);
            e.is("the same", x.change(1, 2, 0), 0);
            e.row("way", i -> x.way(1, i), 1, 1, 0);
            e.is("acts", x.count(7), 3);
        });
        e.test("NONE (STATUS 1): no such place in it.", () ->
                refuses("change", -1, (x, i) -> x.change(1, i, 0), 3, -1, Integer.MIN_VALUE, FAR));
        e.test("NoSuchElementException (ahead): no such PAIR, DEED.", () -> {
            OppositeShores x = busy();
            changesNothing("pair", x, () -> e.none("pair", () -> x.change(2, 9, 0)));
            changesNothing("deed", x, () -> e.none("deed", () -> x.change(0, 9, 2)));
        });
        e.promise(13);
        e.test("The WEATHER's i-th number turns over: as it is then.", () -> {
            OppositeShores x = Tell.told(TEXT);
            e.is("first", x.turn(0), 1);
            e.is("last", x.turn(2), 0);
            e.row("fog", i -> x.fog(i) ? 1 : 0, 1, 0, 0, 1);
            e.is("acts", x.count(7), 2);
        });
        e.test("NONE (STATUS 1): no such place in it.", () ->
                refuses("turn", -1, (x, i) -> x.turn(i), 3, -1, Integer.MIN_VALUE, FAR));
        e.promise(14);
        e.test("The DELAY becomes another: as it was.", () -> {
            OppositeShores x = Tell.told(TEXT);
            e.is("most", x.delay(3), 1);
            e.is("least", x.delay(0), 3);
            e.is("the same", x.delay(0), 0);
            e.is("acts", x.count(7), 3);
        });
        e.test("NONE (STATUS 1): not 0 to 3.", () ->
                refuses("delay", -1, (x, i) -> x.delay(i), 4, -1, Integer.MIN_VALUE, FAR));
        e.promise(15);
        e.test("The TREATY in force (NONE: none): true.", () -> {
            OppositeShores x = Tell.told(TEXT);
            e.is("last", x.sign(1), true);
            e.is("last", x.count(5), 1);
            e.is("none", x.sign(-1), true);
            e.is("none", x.count(5), -1);
            e.is("first", x.sign(0), true);
            e.is("first", x.count(5), 0);
            e.is("acts", x.count(7), 3);
            e.is("none where there is none", Tell.told("").sign(-1), true);
        });
        e.test("False (STATUS 1): there is no such one.", () -> {
            refuses("sign", false, (x, i) -> x.sign(i), 2, -2, Integer.MIN_VALUE, FAR);
            e.is("0 where there is none", Tell.told("").sign(0), false);
        });
        e.promise(16);
        e.test("A SHIRKER or not: true.", () -> {
            OppositeShores x = Tell.told(TEXT);
            e.is("shirks", x.shirk(1, true), true);
            e.is("bits", x.count(6), 2);
            e.is("not any more", x.shirk(1, false), true);
            e.is("bits", x.count(6), 0);
            e.is("acts", x.count(7), 2);
        });
        e.test("False (STATUS 1): he is so already.", () -> {
            refuses("shirk", false, (x, i) -> x.shirk(i, true), 1);
            refuses("shirk not", false, (x, i) -> x.shirk(i, false), 0);
        });
    }

    private void undo() {
        e.promise(17);
        e.test("The last ACT is UNDONE: how many are left.", () -> {
            OppositeShores x = Tell.told(TEXT);
            x.change(1, 2, 0);
            x.turn(2);
            x.delay(0);
            x.sign(-1);
            x.shirk(0, true);
            x.delay(9);
            e.is("shirk", x.undo() + " " + x.count(6), "4 0");
            e.is("sign", x.undo() + " " + x.count(5), "3 0");
            e.is("delay", x.undo() + " " + x.count(3), "2 1");
            e.is("turn", x.undo() + " " + x.fog(2), "1 true");
            e.is("change", x.undo() + " " + x.way(1, 2), "0 1");
            for (int i = 0; i < 41; i++) {
                x.delay(i % 4);
            }
            e.is("of 41", x.undo(), 39);
            e.is("one more act", x.delay(1) + " " + x.count(7), "3 40");
        });
        e.test("NONE: there is none.", () -> {
            OppositeShores x = Tell.told(TEXT);
            changesNothing("undo", x, () -> e.is("undo", x.undo(), -1));
            x.delay(2);
            x.undo();
            changesNothing("undo", x, () -> e.is("undo", x.undo(), -1));
        });
    }

    // ---- sums and plans

    private void sums() {
        e.promise(18);
        e.test("GAINED by the one HERE (side 0), THERE (1). NoSuchElementException: also another side.", () -> {
            OppositeShores x = Tell.told(TEXT);
            e.row("100 days", i -> x.gained(0, i, 100), 0, 99);
            e.noneOutside("side", 0, 1, s -> x.gained(0, s, 100));
        });
        e.test("IllegalArgumentException (behind that): not 0 to 100 DAYS.", () -> {
            OppositeShores x = Tell.told(TEXT);
            e.illegalOutside("days", 0, 100, d -> x.gained(1, 1, d));
            e.none("side ahead", () -> x.gained(0, 2, 101));
            e.none("pair ahead", () -> x.gained(2, 0, -1));
        });
        e.promise(19);
        e.test("FINES. IllegalArgumentException (behind NoSuchElementException): not 0 to 100 DAYS.", () -> {
            OppositeShores x = Tell.told(TEXT);
            x.shirk(0, true);
            // On days 3, 6 .. 99 he does again nothing: 66 of the days 1 to 99 are left.
            e.is("100 days", x.fines(0, 100), 66);
            e.is("no days", x.fines(0, 0), 0);
            e.illegalOutside("days", 0, 100, d -> x.fines(0, d));
            e.none("pair ahead", () -> x.fines(2, 101));
            e.none("pair ahead", () -> x.fines(-1, -1));
        });
        e.promise(20);
        e.test("UNANSWERED; NONE: none.", () -> {
            OppositeShores x = Tell.told(TEXT);
            e.is("none", x.unanswered(0), -1);
            x.shirk(0, true);
            e.is("the first", x.unanswered(0), 0);
        });
        e.promise(21);
        e.test("EVEN; NONE: none.", () -> {
            OppositeShores x = Tell.told("deed 0 0;deed 0 1;opposite 0 1;pair 0;");
            e.is("day 0", x.even(), 0);
            x.delay(0);
            e.is("none", x.even(), -1);
        });
        e.promise(22);
        e.test("POOREST of HERE (side 0), THERE (1). NoSuchElementException: another side.", () -> {
            OppositeShores x = Tell.told("deed 0 0;deed 0 -1;opposite 0 1;pair 0;");
            e.row("poorest", x::poorest, 0, 99);
            e.noneOutside("side", 0, 1, x::poorest);
        });
    }

    private void plans() {
        e.promise(23);
        e.test("A PLAN: how many (the row is kept);", () -> {
            OppositeShores x = Tell.told("deed 0 0;deed 0 1;pair 0;delay 0;");
            e.is("five", x.plan(0, 5) + " " + Edges.plan(x), "5 11111");
            e.is("one, in its place", x.plan(0, 0) + " " + Edges.plan(x), "1 0");
        });
        e.test("NONE: none (no row is kept).", () -> {
            OppositeShores x = Tell.told("deed 0 0;deed 0 1;pair 0;delay 0;");
            x.plan(0, 2);
            e.is("none", x.plan(0, 6) + " " + Edges.plan(x), "-1 ");
        });
        e.test("IllegalArgumentException (behind NoSuchElementException): not -100 to 100.", () -> {
            OppositeShores x = busy();
            e.illegalOutside("gifts", -100, 100, g -> x.plan(1, g));
            e.none("pair ahead", () -> x.plan(2, 101));
            e.none("pair ahead", () -> x.plan(-1, -101));
            x.plan(0, 2);
            changesNothing("too much", x, () -> e.illegal("too much", () -> x.plan(0, 101)));
        });
        e.promise(24);
        e.test("The i-th DEED of the row that is kept. NoSuchElementException: there is none.", () -> {
            OppositeShores x = Tell.told("deed 0 0;deed 0 1;pair 0;delay 0;");
            e.none("no row yet", () -> x.planned(0));
            x.plan(0, 5);
            e.noneOutside("of five", 0, 4, x::planned);
            x.plan(0, 1);
            e.noneOutside("of one", 0, 0, x::planned);
            x.plan(0, 6);
            e.none("no row any more", () -> x.planned(0));
        });
        e.promise(25);
        e.test("WELL. IllegalArgumentException (behind NoSuchElementException): not 1 to 6 DAYS.", () -> {
            OppositeShores x = Tell.told("deed 1 0;pair 0;");
            e.row("well", i -> x.well(0, i + 1), 2, 4, 6, 8, 10, 12);
            e.illegalOutside("days", 1, 6, d -> x.well(0, d));
            e.none("pair ahead", () -> x.well(1, 0));
            e.none("pair ahead", () -> x.well(-1, 7));
        });
        e.promise(26);
        e.test("AN EXCHANGE: how much (i NONE), whose WAY the i-th PAIR takes. NoSuchElementException: no such PAIR.", () -> {
            OppositeShores x = Tell.told(TEXT);
            e.noneOutside("i", -1, 1, i -> x.exchange(100, i));
            OppositeShores y = Tell.told("deed 0 0;");
            e.noneOutside("i without pairs", -1, -1, i -> y.exchange(100, i));
            e.is("how much without pairs", y.exchange(100, -1), 0);
        });
        e.test("IllegalArgumentException (behind that): not 0 to 100 DAYS.", () -> {
            OppositeShores x = Tell.told(TEXT);
            e.illegalOutside("days", 0, 100, d -> x.exchange(d, 0));
            e.none("pair ahead", () -> x.exchange(101, 2));
            e.none("pair ahead", () -> x.exchange(-1, -2));
        });
    }

    // ---- what was seen

    private void seen() {
        e.promise(27);
        e.test("SEEN: how much is. NONE (STATUS 2): there are 8.", () -> {
            OppositeShores x = Tell.told(TEXT);
            e.row("see", i -> x.see(1, 99, 0), 1, 2, 3, 4, 5, 6, 7, 8, -1, -1);
            e.is("refused", x.count(12), 2);
            e.is("seen", x.count(8), 8);
            x.forget();
            e.is("room again", x.see(0, 0, 0), 1);
            e.is("refused still", x.count(12), 2);
        });
        e.test("NoSuchElementException (ahead): no such PAIR, DAY, DEED.", () -> {
            OppositeShores x = busy();
            e.is("there are 8", x.count(8), 8);
            changesNothing("pair", x, () -> e.none("pair", () -> x.see(2, 0, 0)));
            changesNothing("day", x, () -> e.none("day", () -> x.see(0, 100, 0)));
            changesNothing("deed", x, () -> e.none("deed", () -> x.see(0, 0, 2)));
        });
        e.promise(28);
        e.test("All that is SEEN is forgotten.", () -> {
            OppositeShores x = busy();
            int acts = x.count(7);
            x.forget();
            e.is("seen", x.count(8), 0);
            e.is("false", x.falsely(), 0);
            e.is("acts stay", x.count(7), acts);
            e.is("refused ones stay", x.count(12), 1);
            x.forget();
            e.is("none", x.count(8), 0);
        });
        e.promise(29);
        e.test("FALSE.", () -> {
            OppositeShores x = Tell.told(TEXT);
            x.see(0, 0, 1);
            x.see(0, 0, 0);
            e.is("one of two", x.falsely(), 1);
        });
        e.promise(30);
        e.test("WHAT HE DID, as bits.", () -> {
            OppositeShores x = Tell.told("deed 0 0;".repeat(8) + "pair 0;delay 0;");
            e.is("all eight", x.did(0, 0), 255);
            x.see(0, 0, 7);
            e.is("the last", x.did(0, 0), 128);
            e.is("none", x.did(0, 1), 0);
        });
        e.promise(31);
        e.test("THE NEXT MORNING: the DAY (what 0; NONE), how many (1; 0: none). NoSuchElementException: also another "
                + "what.", () -> {
            OppositeShores x = Tell.told("deed 0 0;".repeat(8) + "pair 0;delay 0;");
            e.row("eight", i -> x.morning(0, 99, i), 99, 8);
            x.see(0, 0, 7);
            e.row("none", i -> x.morning(0, 99, i), -1, 0);
            e.noneOutside("what", 0, 1, w -> x.morning(0, 0, w));
        });
        e.promise(32);
        e.test("SHIRKERS FOUND, as bits.", () -> {
            OppositeShores x = Tell.told(TEXT);
            e.is("nothing seen", x.found(), 3);
            x.see(1, 1, 0);
            e.is("pair 1", x.found(), 2);
            x.see(1, 2, 1);
            e.is("none", x.found(), 0);
        });
    }

    // ---- what would be

    private void trials() {
        e.promise(33);
        e.test("COMPARED by a TREATY (NONE: none). NoSuchElementException: no such TREATY.", () -> {
            OppositeShores x = Tell.told("deed 0 0;deed 1 0;opposite 0 1;pair 0;delay 0;treaty 0;treaty day<7;");
            e.row("compared", i -> x.compared(i - 1), 100, 0, 7);
            e.noneOutside("treaty", -1, 1, x::compared);
            e.is("in force still", x.count(5) + " " + x.count(7), "0 0");
            e.noneOutside("where there is none", -1, -1, Tell.told("")::compared);
        });
        e.promise(34);
        e.test("THE BEST TREATY; NONE: none.", () -> {
            OppositeShores x = Tell.told(TEXT);
            e.is("none", x.best(), -1);
            e.is("in force still", x.count(5), 0);
            e.is("where there is none", Tell.told("").best(), -1);
        });
        e.promise(35);
        e.test("DELAYED.", () -> {
            OppositeShores x = Tell.told("deed 0 1;deed 0 0;opposite 0 1;pair 0;");
            e.is("delayed", x.delayed(), 3);
            e.is("the delay stays", x.count(3) + " " + x.count(7), "1 0");
            e.is("no pairs", Tell.told("").delayed(), 0);
        });
        e.promise(36);
        e.test("HARMS; NONE: none.", () -> {
            e.is("none", Tell.told("").harms(), -1);
            OppositeShores x = Tell.told("deed 0 0;deed 1 0;opposite 0 1;pair 0;delay 0;weather 1;");
            e.is("the only one", x.harms(), 0);
            e.is("fog still", x.fog(0), true);
            e.is("no act", x.count(7), 0);
        });
    }

    private void games() {
        e.promise(37);
        e.test("A GAME (DEEDS: 10 by the first and the second one): how many couples rest (what 0), the first "
                + "(1; NONE: none).", () -> {
            // One couple rests always, at the least: that by which both gain most together.
            OppositeShores x = Tell.told("deed 0 0;".repeat(7) + "deed 20 0;opposite 7 0;pair 0;pair 0;");
            e.row("7 and 0", i -> x.game(0, 1, 0, 70, i), 1, 0);
            e.row("0 and 7", i -> x.game(0, 1, 0, 7, i), 1, 11);
            e.row("7 and 7", i -> x.game(0, 1, 0, 77, i), 4, 0);
        });
        e.test("NoSuchElementException: no such PAIRS, DAY, DEEDS (below 0 none), what.", () -> {
            OppositeShores x = Tell.told(TEXT);
            e.noneOutside("what", 0, 1, w -> x.game(0, 1, 0, 1, w));
            for (int p : new int[] {-1, 2, Integer.MIN_VALUE, FAR}) {
                e.none("first " + p, () -> x.game(p, 1, 0, 1, 0));
                e.none("other " + p, () -> x.game(0, p, 0, 1, 0));
                e.none("both " + p, () -> x.game(p, p, 0, 1, 0));
            }
            for (int d : new int[] {-1, -10, -11, Integer.MIN_VALUE, 2, 12, 20, 21, 100, 101, 110, FAR}) {
                e.none("deeds " + d, () -> x.game(0, 1, 0, d, 0));
            }
            e.noneOutside("day", 0, 99, d -> x.game(0, 1, d, 11, 1));
            OppositeShores full = Tell.told("deed 0 0;".repeat(8) + "pair 0;pair 0;");
            e.noneOutside("eight deeds", 70, 77, d -> full.game(0, 1, 0, d, 0));
            e.none("deeds 8", () -> full.game(0, 1, 0, 8, 0));
            e.none("deeds 80", () -> full.game(0, 1, 0, 80, 0));
        });
        e.test("IllegalArgumentException (behind that): both PAIRS are one.", () -> {
            OppositeShores x = Tell.told(TEXT);
            e.illegal("one", () -> x.game(0, 0, 0, 1, 0));
            e.illegal("one", () -> x.game(1, 1, 99, 11, 1));
            e.none("day ahead", () -> x.game(0, 0, 100, 1, 0));
            e.none("deeds ahead", () -> x.game(0, 0, 0, -1, 0));
            e.none("what ahead", () -> x.game(0, 0, 0, 1, 2));
        });
        e.promise(38);
        e.test("YEARS: the STORE of THERE (what 0), HERE (1), DAYS (2). NoSuchElementException: another what.", () -> {
            OppositeShores x = Tell.told("deed 0 1;deed 0 2;opposite 0 1;pair 0;delay 0;");
            // By seed 0 days 0, 1, 2 are of fog, day 3 is clear.
            e.row("four days", i -> x.years(0, 4, i), 5, 4, 3);
            e.noneOutside("what", 0, 2, w -> x.years(0, 4, w));
        });
        e.test("IllegalArgumentException (behind that): n.", () -> {
            OppositeShores x = Tell.told(TEXT);
            e.illegalOutside("n", 0, 100, n -> x.years(1, n, 2));
            e.none("what ahead", () -> x.years(1, 101, 3));
            e.none("what ahead", () -> x.years(1, -1, -1));
        });
    }

    private void rest() {
        e.promise(39);
        e.test("A RING.", () -> {
            OppositeShores x = Tell.told("deed 0 0;deed 0 0;deed 0 0;opposite 1 2;opposite 2 1;");
            e.row("ring", x::ring, 1, 2, 2);
        });
        e.promise(40);
        e.test("IDLE: the one HERE (side 0), THERE (1). NoSuchElementException: also another side.", () -> {
            OppositeShores x = Tell.told(TEXT);
            e.row("idle", i -> x.idle(0, i), 100, 1);
            e.noneOutside("side", 0, 1, s -> x.idle(0, s));
        });
        e.promise(41);
        e.test("WAVES, PAIRS as bits.", () -> {
            OppositeShores x = Tell.told("deed 0 0;" + "pair 0;".repeat(6));
            e.is("all", x.waves(0), 63);
        });
        e.promise(42);
        e.test("RUINED; NONE: there are no PAIRS.", () -> {
            e.is("none", Tell.told("deed 0 0;").ruined(), -1);
            e.is("one", Tell.told("deed 20 0;pair 0;").ruined(), 0);
        });
        e.promise(43);
        e.test("TO STOP; NONE: none.", () -> {
            OppositeShores x = Tell.told("deed 0 0;deed -1 0;pair 1;pair 0;");
            e.is("deed 1", x.stop(0), 1);
            e.is("none", x.stop(1), -1);
            e.is("the way stays", x.way(0, 0) + " " + x.count(7), "1 0");
        });
        e.promise(44);
        e.test("A CHANGE of two places; NONE: none.", () -> {
            OppositeShores x = Tell.told("deed 0 0;deed 1 0;delay 0;treaty day=0;pair 0 1;pair 1 0;");
            e.is("0 and 1", x.swap(0), 1);
            e.is("none", x.swap(1), -1);
            e.is("the way stays", x.way(0, 0) + " " + x.count(7), "0 0");
        });
        e.promise(45);
        e.test("A YEAR; NONE: none.", () -> {
            OppositeShores x = Tell.told("deed 0 0;deed 0 0;opposite 0 1;pair 0;delay 0;treaty day=50;treaty 1;");
            e.is("none", x.year(0), -1);
            x.sign(1);
            e.is("one", x.year(0), 1);
        });
        e.promise(46);
        e.test("A SPELL: how many DAYS (what 0), the first DAY (1; NONE: there is no fog). NoSuchElementException: "
                + "another what.", () -> {
            OppositeShores x = Tell.told("weather 0;");
            e.row("no fog", x::spell, 0, -1);
            x.turn(0);
            e.row("fog", x::spell, 100, 0);
            e.row("no weather", Tell.told("")::spell, 0, -1);
            e.noneOutside("what", 0, 1, x::spell);
        });
        e.promise(47);
        e.test("WHOM a DEED helps, as bits.", () -> {
            OppositeShores x = Tell.told("deed 0 0;deed 1 0;" + "pair 0;".repeat(6));
            e.row("helps", x::helps, 0, 63);
            e.is("ways stay", x.way(5, 0) + " " + x.count(7), "0 0");
        });
    }

    private void images() {
        e.promise(48);
        e.test("WAYS, WEATHER, DELAY, the TREATY in force, SHIRKERS, ACTS and what is SEEN are kept as an image, in "
                + "place of another one.", () -> {
            OppositeShores x = Tell.told(TEXT);
            x.image();
            x.delay(3);
            x.image();
            x.delay(2);
            e.is("the latest", x.restore() + " " + x.count(3), "true 3");
            x.undo();
            e.is("it stays as it was kept", x.restore() + " " + x.count(3), "true 3");
        });
        e.promise(49);
        e.test("They are as the image again: true.", this::restored);
        e.test("False: there is none.", () -> {
            OppositeShores x = Tell.told(TEXT);
            x.delay(3);
            changesNothing("restore", x, () -> e.is("none yet", x.restore(), false));
            x.image();
            Tell.tell(x, TEXT);
            changesNothing("restore", x, () -> e.is("gone", x.restore(), false));
        });
    }

    private void restored() {
        OppositeShores x = Tell.told(TEXT);
        for (int i = 0; i < 41; i++) {
            x.delay(i % 3);
        }
        x.see(0, 0, 0);
        x.see(0, 0, 1);
        x.shirk(1, true);
        String kept = Edges.state(x);
        x.image();
        x.change(0, 0, 1);
        x.turn(0);
        x.delay(3);
        x.sign(-1);
        x.shirk(0, true);
        x.forget();
        x.see(1, 1, 0);
        e.is("restored", x.restore(), true);
        e.is("as it was", Edges.state(x), kept);
        e.is("forty acts", x.undo(), 39);
        e.is("of which the shirker was the last", x.count(6), 0);
        x.undo();
        // The last delays were 0, 1, 2, 0, 1 (the 41st).
        e.is("and the delay was 1 ahead of that", x.count(3), 0);
        for (int i = 37; i >= 0; i--) {
            e.is("left", x.undo(), i);
        }
        e.is("no more", x.undo(), -1);
        e.is("the third delay is undone, not the second", x.count(3), 1);
        for (int i = 0; i < 12; i++) {
            x.see(1, 1, 0);
            x.delay(4);
        }
        e.is("a row", x.plan(0, 1), 1);
        x.restore();
        e.is("status isn't restored", x.count(11) + " " + x.count(12), "12 6");
        e.is("the row is kept", Edges.plan(x), "0");
        fewerActs();
    }

    /** Behind the image other acts, at other places, and other things seen. */
    private void fewerActs() {
        OppositeShores x = Tell.told(TEXT);
        x.shirk(1, true);
        x.change(1, 2, 0);
        x.turn(2);
        x.see(0, 1, 1);
        x.image();
        x.undo();
        x.undo();
        x.change(0, 0, 1);
        x.change(1, 0, 1);
        x.turn(0);
        x.forget();
        x.see(1, 50, 0);
        x.see(1, 51, 0);
        e.is("restored", x.restore(), true);
        e.is("acts", x.count(7), 3);
        e.is("seen", x.count(8), 1);
        e.is("it is so", x.falsely(), 0);
        e.is("what he did", x.did(0, 0), 3);
        x.undo();
        e.row("weather", i -> x.fog(i) ? 1 : 0, 0, 0, 1);
        x.undo();
        e.row("way", i -> x.way(1, i), 0, 1, 1);
        x.undo();
        e.is("shirkers", x.count(6), 0);
        e.is("none is left", x.undo(), -1);
    }
}
