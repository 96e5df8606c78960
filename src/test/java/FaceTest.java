import java.lang.management.ManagementFactory;
import java.lang.reflect.Array;
import java.lang.reflect.Constructor;
import java.lang.reflect.Field;
import java.lang.reflect.Method;
import java.lang.reflect.Modifier;
import java.nio.charset.StandardCharsets;
import java.nio.file.Files;
import java.nio.file.Path;
import java.util.ArrayList;
import java.util.Arrays;
import java.util.IdentityHashMap;
import java.util.List;
import java.util.Map;
import java.util.Set;
import java.util.TreeSet;

/** The public face as the document tells it, the rules of the language, and the room that is used. */
public final class FaceTest {
    private static final Tell T = new Tell("FaceTest");
    private static final String FACE = """
        boolean fog(int) NoSuchElementException
        boolean restore()
        boolean shirk(int, boolean) NoSuchElementException
        boolean sign(int)
        int best()
        int change(int, int, int) NoSuchElementException
        int compared(int) NoSuchElementException
        int count(int) NoSuchElementException
        int deed(int, int) NoSuchElementException
        int delay(int)
        int delayed()
        int did(int, int) NoSuchElementException
        int does(int, int, int) NoSuchElementException
        int even()
        int exchange(int, int) NoSuchElementException IllegalArgumentException
        int falsely()
        int fault()
        int feed(int, int, int, int, int)
        int fines(int, int) NoSuchElementException IllegalArgumentException
        int found()
        int gained(int, int, int) NoSuchElementException IllegalArgumentException
        int game(int, int, int, int, int) NoSuchElementException IllegalArgumentException
        int harms()
        int helps(int) NoSuchElementException
        int idle(int, int) NoSuchElementException
        int morning(int, int, int) NoSuchElementException
        int must(int, int) NoSuchElementException
        int plan(int, int) NoSuchElementException IllegalArgumentException
        int planned(int) NoSuchElementException
        int poorest(int) NoSuchElementException
        int ring(int) NoSuchElementException
        int ruined()
        int see(int, int, int) NoSuchElementException
        int shores(int) IllegalArgumentException
        int spell(int) NoSuchElementException
        int stop(int) NoSuchElementException
        int store(int, int) NoSuchElementException
        int swap(int) NoSuchElementException
        int turn(int)
        int unanswered(int) NoSuchElementException
        int undo()
        int waves(int) NoSuchElementException
        int way(int, int) NoSuchElementException
        int well(int, int) NoSuchElementException IllegalArgumentException
        int year(int) NoSuchElementException
        int years(int, int, int) NoSuchElementException IllegalArgumentException
        void forget()
        void image()
        """;

    public static void main(String[] args) throws Exception {
        face();
        nested();
        source();
        room();
        T.end();
    }

    private static String told(Method method) {
        List<String> types = new ArrayList<>();
        for (Class<?> type : method.getParameterTypes()) {
            types.add(type.getSimpleName());
        }
        StringBuilder told = new StringBuilder(method.getReturnType().getSimpleName());
        told.append(' ').append(method.getName()).append('(').append(String.join(", ", types)).append(')');
        for (Class<?> thrown : method.getExceptionTypes()) {
            told.append(' ').append(thrown.getSimpleName());
        }
        return told.toString();
    }

    private static void face() throws Exception {
        Class<?> it = OppositeShores.class;
        Set<String> methods = new TreeSet<>();
        for (Method method : it.getDeclaredMethods()) {
            if (Modifier.isPublic(method.getModifiers())) {
                methods.add(told(method));
            } else {
                T.is(method + " is private", Modifier.isPrivate(method.getModifiers()), true);
            }
        }
        T.is("methods", methods, new TreeSet<>(Arrays.asList(FACE.strip().split("\n\\s*"))));
        for (Field field : it.getDeclaredFields()) {
            T.is(field + " is hidden", Modifier.isPrivate(field.getModifiers()), !field.getName().equals("NONE"));
        }
        T.is("NONE", it.getField("NONE").toString(), "public static final int OppositeShores.NONE");
        T.is("class", Modifier.toString(it.getModifiers()), "public final");
        Constructor<?>[] made = it.getDeclaredConstructors();
        T.is("constructors", made.length == 1 && Modifier.isPublic(made[0].getModifiers()), true);
        T.is("constructor takes nothing", made[0].getParameterCount(), 0);
    }

    private static void nested() {
        Set<String> names = new TreeSet<>();
        for (Method method : OppositeShores.class.getMethods()) {
            names.add(method.getName());
        }
        List<Class<?>> classes = new ArrayList<>(List.of(OppositeShores.class.getDeclaredClasses()));
        T.is("at most twelve classes", classes.size() < 12, true);
        for (Class<?> it : classes) {
            T.is(it + " is static", Modifier.isStatic(it.getModifiers()), true);
            T.is(it + " is hidden", Modifier.isPublic(it.getModifiers()), false);
        }
        classes.add(OppositeShores.class);
        for (Class<?> it : classes) {
            int fields = 0;
            for (Field field : it.getDeclaredFields()) {
                boolean shared = Modifier.isStatic(field.getModifiers());
                fields += shared ? 0 : 1;
                T.is(field + " is final", !shared || Modifier.isFinal(field.getModifiers()), true);
            }
            T.is(it + " has few fields", fields <= 20, true);
            for (Method method : it.getDeclaredMethods()) {
                boolean named = names.contains(method.getName()) && !Modifier.isPublic(method.getModifiers());
                T.is(method + " bears a public one's name", named, false);
                T.is(method + " takes at most seven", method.getParameterCount() <= 7, true);
            }
        }
    }

    private static void source() throws Exception {
        Path path = Path.of(System.getProperty("source", "src/main/java/OppositeShores.java"));
        String all = new String(Files.readAllBytes(path), StandardCharsets.ISO_8859_1);
        T.is("plain signs", all.chars().allMatch(c -> c == '\n' || c >= 32 && c < 127), true);
        String code = all.replaceAll("(?s)/\\*.*?\\*/", "").replaceAll("//[^\n]*", "")
                .replaceAll("\"[^\"\n]*\"", "QUOTED");
        for (String word : List.of("->", "::", "catch", "try ", "finally", "synchronized", "assert ",
                "package ", "Exact", "@", "float", "double", "static {", "hashCode", "toString", "QUOTED +", "+ QUOTED")) {
            T.is("has " + word, code.contains(word), false);
        }
        T.is("imports", code.split("\nimport ", -1).length + (code.startsWith("import ") ? 1 : 0), 2);
        loops(code);
        int start = 0;
        String[] lines = all.split("\n");
        for (int i = 0; i < lines.length; i++) {
            if (lines[i].matches("( {4}| {8})\\S.*\\(.*|( {4}| {8})\\S.*\\)[^;]* \\{")) {
                start = i;
            }
            if (lines[i].matches(" {4}}| {8}}")) {
                T.is("sixty lines at " + (i + 1), i - start < 60 || lines[i].startsWith("    }"), true);
            }
        }
    }

    /** Rule 9: a counter that is only stepped, against a bound, in the very line of the loop. */
    private static void loops(String code) {
        for (String line : code.split("\n")) {
            if (line.matches(".*\\b(for|while|do)\\b [({].*")) {
                boolean counted = line.matches(
                        " *for \\(int (\\w+) = [^;]+; [^;]*\\b\\1\\b[^;]* [<>]=? [^;]+; \\1(\\+\\+|--| [-+]= \\d+)\\) \\{");
                boolean bound = line.matches(" *while \\((\\w+) < \\w+ && .*\\) \\{");
                T.is("a loop's end can be seen: " + line.strip(), counted || bound, true);
            }
        }
    }

    /** What an object holds, what its dearest calls make, and that they end soon. */
    private static void room() {
        String text = "deed 0 0;deed 20 20;deed -3 7;deed 5 -11;deed 13 1;deed 2 2;deed 9 -9;deed 1 3;"
                + "opposite 1 2;opposite 2 3;opposite 3 4;opposite 4 5;opposite 5 6;opposite 6 7;opposite 7 1;"
                + "pair 1 2 3 4 5 6 7 0;pair 7 6 5 4 3 2 1 0;pair 1 1 2 2 3 3 4 4;pair 5 6 7 5 6 7 5 6;"
                + "pair 2 4 6 2 4 6 2 4;pair 1 3 5 7 1 3 5 7;weather 0 0 1 0 1 0 0 1 0 1;delay 2;"
                + "treaty day*day*deed+gain*gift-again<9999*pair or day/3*3=day and not again or 1;"
                + "treaty (deed+day)/2*2=deed+day;treaty not pair=day-day/6*6;";
        OppositeShores x = Tell.told(text);
        T.is("elements of an object", held(x, new IdentityHashMap<>()) < 12000, true);
        var threads = (com.sun.management.ThreadMXBean) ManagementFactory.getThreadMXBean();
        long id = Thread.currentThread().getId();
        dear(x);
        long before = threads.getThreadAllocatedBytes(id);
        long begun = System.nanoTime();
        for (int i = 0; i < 10; i++) {
            dear(x);
        }
        T.is("calls make nothing", threads.getThreadAllocatedBytes(id) - before < 20000, true);
        T.is("calls end soon", (System.nanoTime() - begun) / 1000000000L < 20, true);
    }

    private static void dear(OppositeShores x) {
        x.see(0, 5, x.does(0, 1, 5));
        x.plan(0, 99);
        x.plan(5, -99);
        x.well(3, 6);
        x.exchange(100, -1);
        x.did(0, 3);
        x.morning(0, 3, 1);
        x.found();
        x.falsely();
        x.best();
        x.delayed();
        x.harms();
        x.game(0, 1, 50, 12, 0);
        x.years(7, 100, 0);
        x.even();
        x.poorest(1);
        x.stop(0);
        x.swap(0);
        x.helps(1);
        x.turn(1);
        x.delay(1);
        x.undo();
        x.image();
        x.restore();
    }

    /** How many fields and elements hang on an object. */
    private static long held(Object it, Map<Object, Boolean> met) {
        if (it == null || it instanceof String || met.put(it, true) != null) {
            return 0;
        }
        long sum = 0;
        if (it.getClass().isArray()) {
            sum += Array.getLength(it);
            for (int i = 0; i < Array.getLength(it) && !it.getClass().getComponentType().isPrimitive(); i++) {
                sum += held(Array.get(it, i), met);
            }
            return sum;
        }
        for (Field field : it.getClass().getDeclaredFields()) {
            if (!Modifier.isStatic(field.getModifiers())) {
                sum++;
                if (!field.getType().isPrimitive()) {
                    field.setAccessible(true);
                    try {
                        sum += held(field.get(it), met);
                    } catch (IllegalAccessException never) {
                        throw new IllegalStateException(never);
                    }
                }
            }
        }
        return sum;
    }
}
