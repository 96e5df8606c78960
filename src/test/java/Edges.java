import java.io.IOException;
import java.nio.charset.StandardCharsets;
import java.nio.file.Files;
import java.nio.file.Path;
import java.util.NoSuchElementException;
import java.util.function.IntFunction;
import java.util.function.Supplier;

/**
 * Tests that each belong to one sentence (or part of one) of the document. A sentence is quoted as
 * it stands there, under its heading; one that isn't there, or whose test looks at nothing, is
 * wrong. So is a word of the document that no test quotes.
 */
final class Edges {
    private final Tell tell;
    private final String document;
    private final boolean[] quoted;
    private int from = 0;
    private int to = 0;
    private String heading = "";
    private String quote = "";
    private int quotes = 0;

    Edges(String test) throws IOException {
        tell = new Tell(test);
        Path path = Path.of(System.getProperty("document", "../shared/DOC.md"));
        document = new String(Files.readAllBytes(path), StandardCharsets.UTF_8);
        quoted = new boolean[document.length()];
    }

    /** What is quoted from here on stands between a heading (or a mark) and what follows it. */
    void under(String itsHeading, String next) {
        heading = itsHeading;
        from = document.indexOf(heading);
        to = from < 0 ? -1 : document.indexOf(next, from + heading.length());
        tell.is("has " + heading + " ahead of " + next, from >= 0 && to >= 0, true);
    }

    /** Under the heading of a promise, which ends where the next heading begins. */
    void promise(int number) {
        under("## Promise " + number + ": ", "\n## ");
    }

    void test(String sentence, Runnable checks) {
        quote = sentence;
        quotes++;
        int at = from < 0 ? -1 : document.indexOf(sentence, from);
        boolean stands = at >= 0 && at + sentence.length() <= to;
        tell.is(heading + " has [" + sentence + "]", stands, true);
        for (int i = at; stands && i < at + sentence.length(); i++) {
            quoted[i] = true;
        }
        int before = tell.checks();
        try {
            checks.run();
        } catch (RuntimeException thrown) {
            tell.is(named("must not throw"), thrown, "no throw");
        }
        tell.is(heading + " [" + sentence + "] is looked at", tell.checks() > before, true);
    }

    private String named(String what) {
        return heading + " [" + quote + "] " + what;
    }

    void is(String what, Object got, Object due) {
        tell.is(named(what), got, due);
    }

    void row(String what, IntFunction<Object> call, int... due) {
        for (int i = 0; i < due.length; i++) {
            is(what + " [" + i + "]", call.apply(i), due[i]);
        }
    }

    void none(String what, Supplier<Object> call) {
        tell.none(named(what), call);
    }

    void illegal(String what, Supplier<Object> call) {
        tell.illegal(named(what), call);
    }

    /** Answered from least to most; NoSuchElementException just outside and far outside. */
    void noneOutside(String what, int least, int most, IntFunction<Object> call) {
        for (int i = least; i <= most; i += Math.max(1, most - least)) {
            answered(what + " " + i, i, call);
        }
        for (int i : new int[] {least - 1, most + 1, Integer.MIN_VALUE, Integer.MAX_VALUE}) {
            none(what + " " + i, () -> call.apply(i));
        }
    }

    /** Answered from least to most; IllegalArgumentException just outside and far outside. */
    void illegalOutside(String what, int least, int most, IntFunction<Object> call) {
        for (int i = least; i <= most; i += Math.max(1, most - least)) {
            answered(what + " " + i, i, call);
        }
        for (int i : new int[] {least - 1, most + 1, Integer.MIN_VALUE, Integer.MAX_VALUE}) {
            illegal(what + " " + i, () -> call.apply(i));
        }
    }

    private void answered(String what, int i, IntFunction<Object> call) {
        String got = "answered";
        try {
            call.apply(i);
        } catch (RuntimeException thrown) {
            got = thrown.toString();
        }
        is(what, got, "answered");
    }

    void fine(String text) {
        bad(text, 0, -1);
    }

    /** A new object, told a text, answers this fault at this place. */
    void bad(String text, int kind, int place) {
        OppositeShores x = new OppositeShores();
        is("of " + shown(text), Tell.tell(x, text), kind);
        is("place in " + shown(text), x.fault(), place);
    }

    private static String shown(String text) {
        StringBuilder shown = new StringBuilder("'");
        for (char c : text.toCharArray()) {
            shown.append(c >= 32 && c < 127 ? String.valueOf(c) : "<" + (int) c + ">");
        }
        return shown.append('\'').toString();
    }

    /** What few calls tell of an object, but for its latest fault, its tape and what it refused. */
    static String state(OppositeShores x) {
        StringBuilder state = new StringBuilder("counts");
        for (int what = 0; what <= 8; what++) {
            state.append(' ').append(x.count(what));
        }
        for (int deed = 0; deed < x.count(0); deed++) {
            state.append(" deed ").append(x.deed(deed, 0)).append(' ').append(x.deed(deed, 1))
                    .append(' ').append(x.deed(deed, 2));
        }
        for (int pair = 0; pair < x.count(1); pair++) {
            state.append(" pair");
            for (int i = 0; i < x.way(pair, -1); i++) {
                state.append(' ').append(x.way(pair, i));
            }
        }
        for (int day = 0; day < x.count(2); day++) {
            state.append(x.fog(day) ? " fog" : " clear");
        }
        return state.append(" false ").append(x.falsely()).append(" plan ").append(plan(x)).toString();
    }

    /** How many calls were refused: texts, acts, what is seen. */
    static String refused(OppositeShores x) {
        return x.count(10) + " " + x.count(11) + " " + x.count(12);
    }

    static String stateAndAll(OppositeShores x) {
        return state(x) + " fault " + x.fault() + " tape " + x.count(9) + " refused " + refused(x);
    }

    /** The row that is kept, as written digits. */
    static String plan(OppositeShores x) {
        StringBuilder plan = new StringBuilder();
        try {
            for (int i = 0; i < 9; i++) {
                plan.append(x.planned(i));
            }
        } catch (NoSuchElementException ended) {
            return plan.toString();
        }
        return plan.append(" and more").toString();
    }

    /** No word of the document between these headings may be left without a test. */
    void nothingLeft(String first, String behindLast) {
        int at = document.indexOf(first);
        int end = document.indexOf(behindLast);
        tell.is("the document has its headings", at >= 0 && end > at, true);
        StringBuilder left = new StringBuilder();
        for (; at < end; at++) {
            left.append(quoted[at] ? ' ' : document.charAt(at));
        }
        // Headings, marks and the calls' heads (FaceTest looks at these) promise nothing.
        String words = left.toString().replaceAll("## [^\n]*|`[^`\n]+`|```text|The constants", "");
        tell.is("words without a test", words.replaceAll("[^A-Za-z]+", " ").strip(), "");
    }

    void end() {
        System.out.println(quotes + " sentences and parts of sentences have a test of their own");
        tell.end();
    }
}
