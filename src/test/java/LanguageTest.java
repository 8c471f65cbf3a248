import java.lang.reflect.Constructor;
import java.lang.reflect.Field;
import java.lang.reflect.Method;
import java.lang.reflect.Modifier;
import java.nio.charset.StandardCharsets;
import java.nio.file.Files;
import java.nio.file.Path;
import java.util.ArrayList;
import java.util.List;
import java.util.Set;
import java.util.TreeSet;
import java.util.regex.Matcher;
import java.util.regex.Pattern;

/** The rules of LANGUAGE.md that can be read from the text and the class: the face, the words, the lengths. */
public final class LanguageTest {
    private static int wrong = 0;

    private static final Set<String> FACE = Set.of(
        "int code(int,int,int,int)", "int wipe()", "int judge()", "int meet(int)", "int row(int,int,int)",
        "int put(int,int,int)", "int cell(int,int)", "float real(int,int)", "int launch(int,int,int)",
        "int rule(int,int)", "int step(int)", "int told(int)", "int group(int,int)", "int way(int,int,int)",
        "int whole(int,int,int)", "float float0(int,int,int)", "int own(int,int,int)", "int shared(int,int)",
        "int race(int,int)", "int alone(int,int)", "int left(int,int)", "int differ(int,int)", "int other(int)",
        "int keep()", "int back()", "int digest()");

    private static void expect(boolean holds, String what) {
        if (holds) return;
        wrong++;
        System.out.println(what);
    }

    public static void main(String[] args) throws Exception {
        face();
        List<Class<?>> classes = new ArrayList<>(List.of(LaneBoard.class.getDeclaredClasses()));
        classes.add(LaneBoard.class);
        expect(classes.size() <= 12, "rule 11: too many classes");
        for (Class<?> c : classes) inside(c);
        String text = Files.readString(Path.of("src/main/java/LaneBoard.java"), StandardCharsets.UTF_8);
        words(text);
        lengths(text);
        System.out.println(wrong == 0 ? "the rules that are looked at are kept" : wrong + " rules are broken");
        if (wrong != 0) System.exit(1);
    }

    private static void face() throws Exception {
        Set<String> found = new TreeSet<>();
        for (Method m : LaneBoard.class.getDeclaredMethods()) {
            if (Modifier.isPrivate(m.getModifiers())) continue;
            StringBuilder s = new StringBuilder(m.getReturnType() + " " + m.getName() + "(");
            for (Class<?> p : m.getParameterTypes()) s.append(s.charAt(s.length() - 1) == '(' ? "" : ",").append(p);
            found.add(s + ")");
            expect(Modifier.isPublic(m.getModifiers()), "rule 1: " + m + " is not public");
        }
        expect(found.equals(new TreeSet<>(FACE)), "rule 1: the face is " + found);
        Constructor<?>[] made = LaneBoard.class.getDeclaredConstructors();
        expect(made.length == 1 && made[0].getParameterCount() == 0, "rule 1: constructors");
        Set<String> constants = new TreeSet<>();
        for (Field f : LaneBoard.class.getDeclaredFields()) {
            if (Modifier.isPrivate(f.getModifiers())) continue;
            constants.add(f.getName() + "=" + f.getInt(null));
        }
        expect(constants.equals(new TreeSet<>(Set.of("NONE=-1", "UNKNOWN=-1000001", "OUTSIDE=-1000002", "STATE=-1000003",
            "FULL=-1000004"))), "rule 1: the constants are " + constants);
        expect(Modifier.isFinal(LaneBoard.class.getModifiers()), "rule 1: the class is not final");
    }

    private static void inside(Class<?> c) {
        int fields = 0;
        for (Field f : c.getDeclaredFields()) {
            boolean isStatic = Modifier.isStatic(f.getModifiers());
            if (!isStatic) fields++;
            expect(!isStatic || Modifier.isFinal(f.getModifiers()), "rule 5: " + f);
        }
        expect(fields <= 20, "rule 11: " + c + " has " + fields + " fields");
        for (Method m : c.getDeclaredMethods()) {
            expect(m.getParameterCount() <= 7, "rule 11: " + m + " takes too many");
            if (c == LaneBoard.class) continue;
            for (String f : FACE) expect(!f.contains(" " + m.getName() + "("), "rule 1: " + m + " has a name of the face");
        }
        if (c != LaneBoard.class) expect(Modifier.isStatic(c.getModifiers()), "rule 1: " + c + " is not static");
    }

    private static void words(String text) {
        expect(text.chars().allMatch(ch -> ch < 128), "a sign beyond 127");
        String bare = text.replaceAll("(?s)/\\*.*?\\*/", "").replaceAll("//[^\n]*", "");
        for (String word : List.of("->", "::", "synchronized", "assert", "finally", "try", "catch", "throw", "Exact",
            "System.out", "Random", "Float.", "Double.", "double", "String", "Object", "protected", "package")) {
            expect(!bare.contains(word), "the text holds " + word);
        }
        Matcher imports = Pattern.compile("import ([^;]*);").matcher(bare);
        while (imports.find()) expect(imports.group(1).equals("java.util.Arrays"), "rule 4: import " + imports.group(1));
        Matcher calls = Pattern.compile("\\b(Math|Integer|Long|Arrays|System)\\.(\\w+)").matcher(bare);
        Set<String> fine = Set.of("Math.min", "Integer.bitCount", "Integer.numberOfTrailingZeros", "Long.bitCount",
            "Arrays.fill", "System.arraycopy");
        while (calls.find()) expect(fine.contains(calls.group()), "rule 4: " + calls.group());
        // No call makes an object: what is made is made with the board, in fields and in its constructor.
        for (String line : bare.split("\n")) {
            if (!line.contains("new ")) continue;
            boolean field = line.matches(" {8}(private )?final .* = new .*;");
            boolean constructor = line.matches(" {8}\\w+ = new \\w+(\\(.*\\)|\\[4\\]);");
            expect(field || constructor, "an object is made at: " + line.trim());
        }
    }

    /** A method's head stands 4 or 8 blanks deep and opens a brace; its end is a brace as deep. */
    private static void lengths(String text) {
        String[] lines = text.split("\n");
        Pattern head = Pattern.compile("( {4}| {8})(?!private static final class)\\S.*\\) \\{");
        for (int i = 0; i < lines.length; i++) {
            expect(lines[i].length() <= 125, "a long line: " + (i + 1));
            Matcher m = head.matcher(lines[i]);
            if (!m.matches()) continue;
            int end = i;
            while (end < lines.length && !lines[end].equals(m.group(1) + "}")) end++;
            expect(end - i < 60, "rule 11: a long method at line " + (i + 1));
        }
    }
}
