import java.util.NoSuchElementException;
import java.util.function.Supplier;

/** What the tests share: telling texts to an object, and comparing answers with what is due. */
final class Tell {
    private final String test;
    private int checks = 0;
    private int wrong = 0;

    Tell(String test) {
        this.test = test;
    }

    /** Feeds a text, with blanks up to a multiple of twenty bytes. */
    static void feed(OppositeShores shores, String text) {
        StringBuilder padded = new StringBuilder(text);
        while (padded.length() % 20 != 0) {
            padded.append(' ');
        }
        for (int i = 0; i < padded.length(); i += 20) {
            int[] n = new int[5];
            for (int k = 0; k < 20; k++) {
                n[k / 4] = n[k / 4] << 8 | padded.charAt(i + k);
            }
            shores.feed(n[0], n[1], n[2], n[3], n[4]);
        }
    }

    static int tell(OppositeShores shores, String text) {
        feed(shores, text);
        return shores.shores(text.length());
    }

    /** A new object that has been told a text without fault. */
    static OppositeShores told(String text) {
        OppositeShores shores = new OppositeShores();
        int fault = tell(shores, text);
        if (fault != 0) {
            throw new IllegalStateException("fault " + fault + " at " + shores.fault() + ": " + text);
        }
        return shores;
    }

    int checks() {
        return checks;
    }

    void is(String what, Object got, Object due) {
        checks++;
        if (!got.equals(due)) {
            wrong++;
            System.out.println(what + " answered " + got + ", due is " + due);
        }
    }

    /** Several answers in a row, written side by side. */
    void row(String what, java.util.function.IntUnaryOperator call, int... due) {
        for (int i = 0; i < due.length; i++) {
            is(what + " [" + i + "]", call.applyAsInt(i), due[i]);
        }
    }

    void none(String what, Supplier<Object> call) {
        throwsOnly(what, NoSuchElementException.class, call);
    }

    void illegal(String what, Supplier<Object> call) {
        throwsOnly(what, IllegalArgumentException.class, call);
    }

    private void throwsOnly(String what, Class<?> due, Supplier<Object> call) {
        Object got;
        try {
            got = call.get();
        } catch (RuntimeException thrown) {
            got = thrown.getClass();
        }
        is(what, got, due);
    }

    void end() {
        System.out.println(test + ": " + checks + " checks, " + wrong + " wrong");
        if (wrong != 0 || checks == 0) {
            System.exit(1);
        }
    }
}
