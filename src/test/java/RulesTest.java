import java.lang.management.ManagementFactory;
import java.lang.reflect.Constructor;
import java.lang.reflect.Field;
import java.lang.reflect.Method;
import java.lang.reflect.Modifier;
import java.nio.file.Files;
import java.nio.file.Path;
import java.util.ArrayList;
import java.util.Arrays;
import java.util.List;
import java.util.Set;
import java.util.TreeSet;
import java.util.regex.Matcher;
import java.util.regex.Pattern;

/** The face of the class, the language rules that can be read off it, and the largest bench. */
public final class RulesTest {
    private static final String FACE = "int task(); int time(int,int,int); int share(int,int);"
            + " int ahead(int,int); int free(int,int); int ring(int); int pair(int,int,int);"
            + " int hold(int,int); int line(int); int beat(int); int of(int,int); int put(int,int);"
            + " int cause(int); int clash(); int station(int,int); int length(); long squares();"
            + " int fewest(); long many(); int best(boolean); long evenest(); int leastBeat(int);"
            + " int bound(int); int early(int); int late(int,int); int rule(int); int better();"
            + " int sheet(int,int,int); int write(int,int,int); int take(int,int,int,int);"
            + " int lose(int); int tell(int); int check(); int keep(); int back(); int count(int)";

    private static final List<String> wrong = new ArrayList<>();

    public static void main(String[] args) throws Exception {
        face();
        members();
        source();
        largestBench();
        for (String row : wrong) {
            System.out.println(row);
        }
        System.out.println("RulesTest: " + wrong.size() + " wrong");
        if (!wrong.isEmpty()) {
            System.exit(1);
        }
    }

    private static void must(boolean holds, String what) {
        if (!holds) {
            wrong.add("RulesTest: " + what);
        }
    }

    private static String shape(Method m) {
        List<String> types = new ArrayList<>();
        for (Class<?> type : m.getParameterTypes()) {
            types.add(type.getSimpleName());
        }
        return m.getReturnType().getSimpleName() + " " + m.getName() + "(" + String.join(",", types) + ")";
    }

    private static void face() {
        Set<String> want = new TreeSet<>(Arrays.asList(FACE.split("; ")));
        Set<String> got = new TreeSet<>();
        Set<String> names = new TreeSet<>();
        for (Method m : StationLine.class.getDeclaredMethods()) {
            if (Modifier.isPublic(m.getModifiers())) {
                got.add(shape(m));
                names.add(m.getName());
                must(!Modifier.isStatic(m.getModifiers()), m.getName() + " is static");
            }
        }
        must(got.equals(want), "face is " + got + ", due is " + want);
        must(Modifier.isFinal(StationLine.class.getModifiers()), "the class is not final");
        for (Method m : StationLine.class.getDeclaredMethods()) {
            boolean isPrivate = Modifier.isPrivate(m.getModifiers());
            must(isPrivate || Modifier.isPublic(m.getModifiers()), m.getName() + " can be seen");
            must(!isPrivate || !names.contains(m.getName()), m.getName() + " has a public name");
        }
        for (Constructor<?> c : StationLine.class.getDeclaredConstructors()) {
            must(c.getParameterCount() == 0 && Modifier.isPublic(c.getModifiers()), "constructor " + c);
        }
        for (Field f : StationLine.class.getDeclaredFields()) {
            must(Modifier.isPrivate(f.getModifiers()), f.getName() + " can be seen");
        }
    }

    private static void members() {
        List<Class<?>> classes = new ArrayList<>(List.of(StationLine.class.getDeclaredClasses()));
        must(classes.size() + 1 <= 12, "too many classes");
        for (Class<?> c : classes) {
            must(Modifier.isStatic(c.getModifiers()), c + " is not static");
        }
        classes.add(StationLine.class);
        for (Class<?> c : classes) {
            int fields = 0;
            for (Field f : c.getDeclaredFields()) {
                boolean isStatic = Modifier.isStatic(f.getModifiers());
                must(!isStatic || Modifier.isFinal(f.getModifiers()), f + " is static and not final");
                must(!isStatic || f.getType().isPrimitive(), f + " is no plain constant");
                fields += isStatic ? 0 : 1;
            }
            must(fields <= 20, c + " has " + fields + " fields");
            for (Method m : c.getDeclaredMethods()) {
                must(m.getParameterCount() <= 7, m + " takes too many");
            }
        }
    }

    private static void source() throws Exception {
        String text = Files.readString(Path.of("src/main/java/StationLine.java"));
        String code = text.replaceAll("(?s)/\\*.*?\\*/", " ").replaceAll("//[^\n]*", " ");
        for (String word : new String[] {"throw", "throws", "try", "catch", "finally", "synchronized", "assert",
            "double", "float", "package", "native", "Exception", "Error"}) {
            must(!Pattern.compile("\\b" + word + "\\b").matcher(code).find(), "the source has " + word);
        }
        must(!code.contains("->") && !code.contains("::"), "the source has a lambda");
        Set<String> library = Set.of("Math.max", "Math.min", "Integer.bitCount", "System.arraycopy", "Arrays.fill");
        Matcher call = Pattern.compile("\\b(Math|Integer|Long|System|Arrays)\\.\\w+").matcher(code);
        while (call.find()) {
            must(library.contains(call.group()), "the source uses " + call.group());
        }
        must(text.chars().allMatch(c -> c < 128), "the source has other characters");
        int start = 0;
        String[] lines = text.split("\n");
        for (int i = 0; i < lines.length; i++) {
            if (lines[i].matches("    (    )?\\w.*\\) \\{")) {
                start = i;
            }
            boolean ends = lines[i].matches("    (    )?\\}");
            must(!ends || i - start < 60, "long method at line " + start);
        }
    }

    /** Ten tasks, all calls of one object: they end soon and make no objects. */
    private static void largestBench() {
        StationLine x = new StationLine();
        for (int t = 0; t < 10; t++) {
            x.task();
            x.time(t, 0, 3 + t);
            x.time(t, 1, 12 - t);
        }
        x.hold(9, 10);
        x.beat(40);
        heavyCalls(x, 1);
        var threads = (com.sun.management.ThreadMXBean) ManagementFactory.getThreadMXBean();
        long id = Thread.currentThread().getId();
        threads.getThreadAllocatedBytes(id);
        long before = threads.getThreadAllocatedBytes(id);
        heavyCalls(x, 36);
        long made = threads.getThreadAllocatedBytes(id) - before;
        must(made < 4096, "calls made " + made + " bytes of objects");
    }

    private static void heavyCalls(StationLine x, int rounds) {
        for (int i = 0; i < rounds; i++) {
            x.line(i % 4);
            x.fewest();
            x.many();
            x.best(false);
            x.best(true);
            x.evenest();
            x.leastBeat(10);
            x.rule(i % 4);
            x.better();
            x.keep();
            x.back();
            x.sheet(0, 0, 40);
        }
    }
}
