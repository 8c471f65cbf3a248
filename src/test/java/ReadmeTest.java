import java.lang.reflect.Method;
import java.nio.charset.StandardCharsets;
import java.nio.file.Files;
import java.nio.file.Path;
import java.util.HashSet;
import java.util.List;
import java.util.Set;
import java.util.regex.Matcher;
import java.util.regex.Pattern;

/** README.md: each row of its Java answers what stands behind it, and all calls of the face are in its table. */
public final class ReadmeTest extends Check {
    private static final Pattern CALL = Pattern.compile("board\\.(\\w+)\\(([-\\d, ]*)\\); +// (-?\\d+)(:.*)?");

    public static void main(String[] args) throws Exception {
        List<String> lines = Files.readAllLines(Path.of("README.md"), StandardCharsets.UTF_8);
        rows(lines);
        table(lines);
        end();
    }

    private static void rows(List<String> lines) throws Exception {
        LaneBoard board = null;
        boolean inJava = false;
        int calls = 0;
        for (String line : lines) {
            if (line.startsWith("```")) inJava = line.equals("```java");
            else if (line.equals("LaneBoard board = new LaneBoard();")) board = new LaneBoard();
            else if (inJava) calls += answer(board, line);
        }
        due("README.md has rows of calls", calls > 40 ? 1 : 0, 1);
    }

    private static int answer(LaneBoard board, String line) throws Exception {
        Matcher m = CALL.matcher(line);
        due("README.md, form of: " + line, m.matches() ? 1 : 0, 1);
        if (!m.matches()) return 0;
        String[] texts = m.group(2).isEmpty() ? new String[0] : m.group(2).split(", ");
        Class<?>[] types = new Class<?>[texts.length];
        Object[] given = new Object[texts.length];
        for (int i = 0; i < texts.length; i++) {
            types[i] = int.class;
            given[i] = Integer.valueOf(texts[i]);
        }
        Method method = LaneBoard.class.getMethod(m.group(1), types);
        due("README.md: " + line, (Integer) method.invoke(board, given), Long.parseLong(m.group(3)));
        return 1;
    }

    private static void table(List<String> lines) {
        Set<String> named = new HashSet<>();
        for (String line : lines) {
            if (!line.startsWith("| `")) continue;
            Matcher m = Pattern.compile("`(\\w+)`").matcher(line.substring(0, line.indexOf('|', 1)));
            while (m.find()) named.add(m.group(1));
        }
        for (Method m : LaneBoard.class.getDeclaredMethods()) {
            if (!java.lang.reflect.Modifier.isPublic(m.getModifiers())) continue;
            due("README.md names " + m.getName(), named.remove(m.getName()) ? 1 : 0, 1);
        }
        due("README.md names calls that are none " + named, named.size(), 0);
    }
}
