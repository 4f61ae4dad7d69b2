import java.lang.reflect.Method;
import java.nio.file.Files;
import java.nio.file.Path;
import java.util.regex.Matcher;
import java.util.regex.Pattern;

/** Each call in the examples of README.md answers what stands behind it. */
public final class ReadmeTest {
    private static final Pattern CALL = Pattern.compile("line\\.(\\w+)\\(([^)]*)\\); +// (-?\\d+)\\b.*");
    private static final Edges edges = new Edges("ReadmeTest");

    public static void main(String[] args) throws Exception {
        StationLine line = null;
        int calls = 0;
        for (String row : Files.readAllLines(Path.of("README.md"))) {
            Matcher call = CALL.matcher(row);
            if (row.equals("StationLine line = new StationLine();")) {
                line = new StationLine();
            } else if (call.matches() && line != null) {
                edges.due(row, answer(line, call.group(1), call.group(2)), Long.parseLong(call.group(3)));
                calls++;
            } else {
                edges.due("a call that can't be read: " + row, row.startsWith("line.") ? 1 : 0, 0);
            }
        }
        edges.due("calls are there", calls > 40 ? 1 : 0, 1);
        edges.end();
    }

    private static long answer(StationLine line, String name, String told) throws Exception {
        String[] words = told.isEmpty() ? new String[0] : told.split(", ");
        Object[] values = new Object[words.length];
        for (int i = 0; i < words.length; i++) {
            boolean isTruth = words[i].equals("true") || words[i].equals("false");
            values[i] = isTruth ? (Object) Boolean.valueOf(words[i]) : (Object) Integer.valueOf(words[i]);
        }
        for (Method m : StationLine.class.getMethods()) {
            if (m.getName().equals(name)) {
                return ((Number) m.invoke(line, values)).longValue();
            }
        }
        return Long.MIN_VALUE;
    }
}
