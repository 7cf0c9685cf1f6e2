import java.io.IOException;
import java.lang.management.ManagementFactory;
import java.lang.reflect.Constructor;
import java.lang.reflect.Field;
import java.lang.reflect.Method;
import java.lang.reflect.Modifier;
import java.nio.file.Files;
import java.nio.file.Path;
import java.util.Random;
import java.util.Set;
import java.util.TreeSet;
import java.util.regex.Matcher;
import java.util.regex.Pattern;

/** The face, what a test can see of ../shared/LANGUAGE.md, that calls do not throw, and what room a run needs. */
public final class LanguageTest {
    private static final Path SOURCE = Path.of("src/main/java/TramWires.java");
    private static final Set<String> FACE = Set.of("section/2", "isolator/2", "pool/1", "sectionOf/2",
        "isolatorOf/2", "count/1", "undo/0", "refusal/2", "step/2", "log/2", "plan/2", "canPlan/1", "enter/3",
        "leave/2", "fetch/1", "pass/1", "type/1", "clearText/0", "fault/1", "play/0");
    private static final Set<String> CONSTANTS = Set.of("INVALID_ARGUMENT", "NOT_POSSIBLE", "LIMIT_REACHED",
        "NOT_FOUND");
    private static final String[] BARRED = {"throw", "throws", "try", "catch", "finally", "synchronized", "assert",
        "package", "protected", "native", "volatile", "transient", "hashCode", "\\w+Exact", "->", "::"};
    /** What rule 4 allows of classes with static functions; of the others it allows all that the class could need. */
    private static final String LIBRARY = "System\\.arraycopy|(Math|Integer|Long)\\.\\w+|Integer|List\\.of|List"
        + "|ArrayList|Arrays\\.(copyOf|copyOfRange|fill)|String|StringBuilder|Iterator|Iterable|Comparable";
    private static final int MOST_LINES = 60;
    /** One run has room for some 7.3 million fields and elements, and this is far below. */
    private static final long MOST_BYTES = 16_000_000;

    public static void main(String[] args) throws IOException {
        constants();
        members();
        classesInside();
        words();
        lengthsOfMethods();
        runsFitIntoTheRoom();
        callsNeverThrow();
        Check.end("LanguageTest");
    }

    private static void due(String what, long got, long want) {
        Check.due(what, got, want);
    }

    private static void constants() {
        due("INVALID_ARGUMENT", TramWires.INVALID_ARGUMENT, -1);
        due("NOT_POSSIBLE", TramWires.NOT_POSSIBLE, -2);
        due("LIMIT_REACHED", TramWires.LIMIT_REACHED, -3);
        due("NOT_FOUND", TramWires.NOT_FOUND, -4);
    }

    private static void members() {
        Set<String> open = new TreeSet<>();
        for (Method m : TramWires.class.getDeclaredMethods()) {
            if (!Modifier.isPrivate(m.getModifiers())) {
                open.add(m.getName() + "/" + m.getParameterCount());
                due(m.getName() + " answers with an int", m.getReturnType() == int.class ? 1 : 0, 1);
                due(m.getName() + " is public", m.getModifiers(), Modifier.PUBLIC);
            }
        }
        due("methods of the face " + open, open.equals(FACE) ? 1 : 0, 1);
        Set<String> fields = new TreeSet<>();
        for (Field f : TramWires.class.getDeclaredFields()) {
            if (!Modifier.isPrivate(f.getModifiers())) {
                fields.add(f.getName());
            }
            boolean changing = Modifier.isStatic(f.getModifiers()) && !Modifier.isFinal(f.getModifiers());
            due("no static state in " + f.getName(), changing ? 1 : 0, 0);
        }
        due("constants of the face " + fields, fields.equals(CONSTANTS) ? 1 : 0, 1);
        Constructor<?>[] constructors = TramWires.class.getDeclaredConstructors();
        due("one constructor", constructors.length, 1);
        due("without parameters", constructors[0].getParameterCount(), 0);
        due("the class", TramWires.class.getModifiers(), Modifier.PUBLIC | Modifier.FINAL);
    }

    private static void classesInside() {
        Set<String> faceNames = new TreeSet<>();
        for (String call : FACE) {
            faceNames.add(call.substring(0, call.indexOf('/')));
        }
        Class<?>[] inside = TramWires.class.getDeclaredClasses();
        due("some twelve classes", inside.length <= 12 ? 1 : 0, 1);
        for (Class<?> c : inside) {
            int open = c.getModifiers() & (Modifier.PUBLIC | Modifier.PROTECTED);
            due(c.getName() + " is not open", open, 0);
            due(c.getName() + " is static", Modifier.isStatic(c.getModifiers()) ? 1 : 0, 1);
            int fields = 0;
            for (Field f : c.getDeclaredFields()) {
                fields += Modifier.isStatic(f.getModifiers()) ? 0 : 1;
            }
            due(c.getName() + " has some twenty fields", fields <= 20 ? 1 : 0, 1);
            for (Method m : c.getDeclaredMethods()) {
                due(m + " has a name of the face", faceNames.contains(m.getName()) ? 1 : 0, 0);
                due(m + " has too many parameters", m.getParameterCount() > 7 ? 1 : 0, 0);
            }
        }
    }

    private static void words() throws IOException {
        String source = Files.readString(SOURCE);
        due("signs beyond 127", source.chars().filter(c -> c > 127).count(), 0);
        String code = source.replaceAll("(?s)/\\*.*?\\*/", "").replaceAll("//[^\n]*", "");
        for (String word : BARRED) {
            String pattern = word.startsWith("-") || word.startsWith(":") ? word : "\\b" + word + "\\b";
            due(word + " stands in the class", Pattern.compile(pattern).matcher(code).find() ? 1 : 0, 0);
        }
        String body = code.replaceAll("import java\\.util\\.\\w+;", "");
        due("imports of another package", body.contains("import") ? 1 : 0, 0);
        Matcher library = Pattern.compile("\\b(System|Math|StrictMath|Integer|Long|Short|Byte|Double|Float|Arrays"
            + "|Objects|Collections|String|StringBuilder|ArrayList|List|Map|HashMap|Set|HashSet|Object|Character"
            + "|Boolean|Iterator|Thread|Runtime|Class)\\b(\\.\\w+)?").matcher(body);
        while (library.find()) {
            due(library.group() + " of the library", library.group().matches(LIBRARY) ? 1 : 0, 1);
        }
    }

    private static void lengthsOfMethods() throws IOException {
        int began = -1;
        int number = 0;
        for (String line : Files.readAllLines(SOURCE)) {
            number++;
            if (line.matches("(    |        )[a-z].*\\) \\{") && !line.contains("class ")) {
                began = number;
            } else if (began > 0 && line.matches("(    |        )\\}")) {
                due("lines of the method at " + began, number - began < MOST_LINES ? 1 : 0, 1);
                began = -1;
            }
        }
    }

    private static void runsFitIntoTheRoom() {
        com.sun.management.ThreadMXBean bean =
            (com.sun.management.ThreadMXBean) ManagementFactory.getThreadMXBean();
        for (int run = 0; run < 50; run++) {
            Random random = new Random(run);
            long before = bean.getCurrentThreadAllocatedBytes();
            TramWires x = new TramWires();
            for (int i = 0; i < 512; i++) {
                call(x, random, 11);
            }
            long made = bean.getCurrentThreadAllocatedBytes() - before;
            due("bytes made in run " + run + ": " + made, made < MOST_BYTES ? 1 : 0, 1);
        }
    }

    /** What calls after the 512th answer is free, but they may not throw either. */
    private static void callsNeverThrow() {
        Random random = new Random(20);
        int[] bounds = {3, 11, 60, 200, 20000, Integer.MAX_VALUE};
        for (int bound : bounds) {
            TramWires x = new TramWires();
            int calls = 0;
            for (int i = 0; i < 60000; i++) {
                call(x, random, random.nextInt(3) == 0 ? bound : 11);
                calls++;
            }
            due("calls up to " + bound, calls, 60000);
        }
    }

    private static int call(TramWires x, Random random, int bound) {
        int a = random.nextInt(bound) - (random.nextInt(9) == 0 ? bound / 2 : 0);
        int b = random.nextInt(bound) - (random.nextInt(9) == 0 ? bound / 2 : 0);
        int c = random.nextInt(9) == 0 ? b : x.count(8) + a;
        return switch (random.nextInt(24)) {
            case 0 -> x.section(a, b % 2);
            case 1 -> x.isolator(a, b);
            case 2 -> x.pool(a);
            case 3 -> x.sectionOf(a, b);
            case 4 -> x.isolatorOf(a, b);
            case 5 -> x.count(a);
            case 6 -> x.undo();
            case 7 -> x.refusal(a % 8, b);
            case 8 -> x.log(a, b % 3);
            case 9 -> x.plan(a, b);
            case 10 -> x.canPlan(a);
            case 11 -> x.enter(a, b, c);
            case 12 -> x.leave(a, b);
            case 13 -> x.fetch(a);
            case 14 -> x.pass(a);
            case 15 -> x.type("btocfneu0123456789; x".charAt(random.nextInt(21)));
            case 16 -> x.type(a);
            case 17 -> random.nextInt(5) == 0 ? x.clearText() : x.type(';');
            case 18 -> x.fault(a % 2);
            case 19 -> x.play();
            default -> x.step(a % 8, b);
        };
    }
}
