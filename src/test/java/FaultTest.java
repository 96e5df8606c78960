/** Promises 3 and 4: which texts are told without fault, which fault others have, and where. */
public final class FaultTest {
    private static final String D = "deed 0 0;";
    private static final Tell T = new Tell("FaultTest");

    public static void main(String[] args) {
        tokens();
        lines();
        deeds();
        opposites();
        pairs();
        weatherAndDelay();
        treaties();
        nesting();
        cut();
        T.end();
    }

    private static void fine(String text) {
        bad(text, 0, -1);
    }

    private static void bad(String text, int kind, int place) {
        OppositeShores x = new OppositeShores();
        T.is("[" + text + "]", Tell.tell(x, text), kind);
        T.is("place in [" + text + "]", x.fault(), place);
        T.is("status of [" + text + "]", x.count(10), kind == 0 ? 0 : 1);
    }

    /** A treaty behind nothing: places count from its expression on. */
    private static void expr(String expr, int kind, int place) {
        bad("treaty " + expr, kind, kind == 0 ? -1 : 7 + place);
    }

    private static void tokens() {
        fine("");
        fine("  \n \n");
        fine("deed0 0;deed\n-\n2-3;pair 0 1;treaty(1)and(2);");
        fine("deed 0000 0020;");
        bad("Deed 0 0;", 1, 0);
        bad("deed\t0 0;", 1, 4);
        bad("deed 0 0;\r", 1, 9);
        bad("deed 0\u00e90;", 1, 6);
        bad("deed 0 0;\u0000", 1, 9);
        bad("deed 0 0,", 1, 8);
        bad("deeds 0 0;", 1, 0);
        bad("feed 0 0;", 1, 0);
        bad("dee d 0 0;", 1, 0);
        bad("deed 00000 0;", 2, 5);
        bad("deed 0 0000000000000000000;", 2, 7);
    }

    private static void lines() {
        bad(";", 1, 0);
        bad("5", 1, 0);
        bad("12345", 1, 0);
        bad("(", 1, 0);
        bad("gain", 1, 0);
        bad("not", 1, 0);
        bad("deed 0 0;;", 1, 9);
        bad("  deed", 1, 6);
        bad("deed  ", 1, 6);
        bad("deed 0 0", 1, 8);
        bad("deed 0 0 deed", 1, 9);
        bad("deed 0 0 0;", 1, 9);
        bad("deed 0 0 12345;", 1, 9);
    }

    private static void deeds() {
        fine("deed 20 20;deed -20 -20;deed -0 - 0;");
        bad("deed 21 0;", 2, 5);
        bad("deed 0 21;", 2, 7);
        bad("deed - 21 0;", 2, 7);
        bad("deed 0 -21;", 2, 8);
        bad("deed --1 0;", 1, 6);
        bad("deed 1- 0", 1, 9);
        bad("deed +1 0;", 1, 5);
        bad("deed a 0;", 1, 5);
        bad("deed ;", 1, 5);
        bad("deed -;", 1, 6);
        bad("deed 0;", 1, 6);
        fine(D.repeat(8));
        bad(D.repeat(9), 2, 72);
        bad(D.repeat(8) + "deed", 2, 72);
        bad(D.repeat(8) + "deeds", 1, 72);
    }

    private static void opposites() {
        fine(D + D + "opposite 0 1;opposite 1 1;");
        bad("opposite 0 0;", 3, 9);
        bad(D + "opposite 1 0;", 3, 18);
        bad(D + "opposite 0 1;", 3, 20);
        bad(D + "opposite 9999 0;", 3, 18);
        bad(D + "opposite 10000 0;", 2, 18);
        bad(D + "opposite 0 10000;", 2, 20);
        bad(D + "opposite;", 1, 17);
        bad(D + "opposite 0;", 1, 19);
        bad(D + "opposite -0 0;", 1, 18);
        bad(D + "opposite 0 0 0;", 1, 22);
        bad(D + "opposite 0 0;opposite 0 0;", 4, 31);
        bad(D + "opposite 0 0;opposite 0", 4, 31);
        bad(D + "opposite 0 0;opposite 1 0;", 3, 31);
        bad(D + "opposite 0 0;opposite 00000 0;", 2, 31);
        // A deed told behind does not count.
        bad(D + "opposite 0 1;" + D, 3, 20);
    }

    private static void pairs() {
        fine(D + "pair 0 0 0 0 0 0 0 0;");
        bad(D + "pair 0 0 0 0 0 0 0 0 0;", 2, 30);
        bad(D + "pair 0 0 0 0 0 0 0 0 9;", 2, 30);
        bad(D + "pair 0 0 0 0 0 0 0 0 99999;", 2, 30);
        bad(D + "pair 0 0 0 0 0 0 0 0 a;", 1, 30);
        bad("pair 0;", 3, 5);
        bad(D + "pair;", 1, 13);
        bad(D + "pair 0 1;", 3, 16);
        bad(D + "pair 0 00001;", 2, 16);
        bad(D + "pair 0", 1, 15);
        bad(D + "pair 0 -", 1, 16);
        fine(D + "pair 0;".repeat(6));
        bad(D + "pair 0;".repeat(7), 2, 51);
        bad(D + "pair 0;".repeat(6) + "pair", 2, 51);
    }

    private static void weatherAndDelay() {
        fine("weather 0 1 0 1 0 1 0 1 0 1;");
        bad("weather 0 1 0 1 0 1 0 1 0 1 0;", 2, 28);
        bad("weather 0 1 0 1 0 1 0 1 0 1 2;", 2, 28);
        bad("weather 2;", 2, 8);
        bad("weather 0 2;", 2, 10);
        bad("weather 00001;", 2, 8);
        bad("weather;", 1, 7);
        bad("weather -1;", 1, 8);
        bad("weather 0", 1, 9);
        bad("weather 0;weather 0;", 5, 10);
        bad("weather 0;weather", 5, 10);
        fine("delay 0;");
        fine("delay 3;");
        bad("delay 4;", 2, 6);
        bad("delay 12345;", 2, 6);
        bad("delay;", 1, 5);
        bad("delay 1 1;", 1, 8);
        bad("delay 1;delay 1;", 5, 8);
        fine("delay 1;weather 0;");
    }

    private static void treaties() {
        fine("treaty 1;".repeat(3));
        bad("treaty 1;".repeat(4), 2, 27);
        bad("treaty 1;".repeat(3) + "treaty", 2, 27);
        expr("deed+gain-gift*day/pair<again;", 0, 0);
        expr("9999;", 0, 0);
        expr("12345;", 2, 0);
        expr(";", 1, 0);
        expr("", 1, 0);
        expr("1", 1, 1);
        expr("-1;", 1, 0);
        expr("1 2;", 1, 2);
        expr("1 12345;", 1, 2);
        expr("1 deed;", 1, 2);
        expr("1 not 1;", 1, 2);
        expr("deed deed 0 0;", 1, 5);
        expr("1+;", 1, 2);
        expr("1+12345;", 2, 2);
        expr("1<2<3;", 1, 3);
        expr("1=2<3;", 1, 3);
        expr("1=2 and 3=4 or not 5<6;", 0, 0);
        expr("sun;", 3, 0);
        expr("say;", 3, 0);
        expr("z;", 3, 0);
        expr("a;", 3, 0);
        expr("dayz;", 3, 0);
        expr("{", 1, 0);
        expr("`", 1, 0);
        expr("or;", 3, 0);
        expr("1 or;", 1, 4);
        expr("1 or or 1;", 3, 5);
        expr("1 and and 1;", 3, 6);
        expr("1+not 1;", 3, 2);
        expr("1<not 1;", 3, 2);
        expr("1 and not 1;", 0, 0);
        expr("opposite;", 3, 0);
        expr("deeds;", 3, 0);
        expr("(1;", 1, 2);
        expr("(1));", 1, 3);
        expr("();", 1, 1);
        expr(")", 1, 0);
        expr("#", 1, 0);
        expr("1 or", 1, 4);
    }

    private static void nesting() {
        expr("(((((1)))));", 0, 0);
        expr("((((((1))))));", 2, 6);
        expr("((((((12345", 2, 6);
        expr("((((((deed", 2, 6);
        expr("((((((sun", 2, 6);
        expr("((((((not", 2, 6);
        expr("(((((((", 2, 6);
        expr("(((((()", 1, 6);
        expr("((((((+", 1, 6);
        expr("((((((;", 1, 6);
        expr("((((((", 1, 6);
        expr("(((((1)))))+(((((1)))));", 0, 0);
        expr("(((((1+((2", 2, 8);
        expr("(((((1+(2", 2, 8);
        expr("not not not not not not 1;", 0, 0);
        expr("not not not not not not not 1;", 2, 24);
        expr("not not not not not not sun;", 3, 24);
        expr("not not not not not not (not not not not not not 1);", 0, 0);
        expr("not not not not not not 1 and not not not not not not 1;", 0, 0);
        expr("not not not (not not not not not not not 1);", 2, 37);
    }

    /** What stands on the tape behind the first n bytes is no part of the text. */
    private static void cut() {
        cut("treaty 1 and 1;", 11, 1, 9);
        cut("weather 12;", 9, 1, 9);
        cut("deed 0 0;deed", 9, 0, -1);
        cut("deed 0 0;;", 9, 0, -1);
        cut("treaty day;", 8, 3, 7);
        String sum = "treaty " + "1+".repeat(346) + "1";
        cut(sum, 700, 1, 700);
        cut(sum.substring(0, 699) + ";", 700, 1, 699);
        cut(sum.substring(0, 698) + " ;", 700, 0, -1);
        cut(sum.substring(0, 698) + ";;", 700, 1, 699);
        cut(" ".repeat(700), 700, 0, -1);
        cut(" ".repeat(699) + "a", 700, 1, 699);
    }

    private static void cut(String tape, int n, int kind, int place) {
        OppositeShores x = new OppositeShores();
        Tell.feed(x, tape);
        String end = tape.substring(Math.max(0, n - 20));
        T.is("first " + n + " up to [" + end + "]", x.shores(n), kind);
        T.is("place in the first " + n + " up to [" + end + "]", x.fault(), place);
    }
}
