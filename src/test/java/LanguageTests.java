import java.io.IOException;
import java.lang.reflect.Executable;
import java.lang.reflect.Field;
import java.lang.reflect.Modifier;
import java.nio.file.Files;
import java.nio.file.Path;
import java.util.ArrayList;
import java.util.Arrays;
import java.util.List;
import java.util.Set;
import java.util.regex.Matcher;
import java.util.regex.Pattern;

/** Those rules of ../shared/LANGUAGE.md that can be read off the program's text and its members. */
public final class LanguageTests {
    private static final Path SOURCE = Path.of("src/main/java/TrueWeights.java");
    private static final int MOST_PARAMETERS = 7, MOST_LINES = 60, MOST_CLASSES = 12, MOST_FIELDS = 20;

    private static final Set<Class<?>> CONSTANTS = Set.of(int.class, long.class, boolean.class, char.class, String.class,
        int[].class, long[].class, char[].class, byte[].class);
    private static final Set<String> LIBRARY = Set.of("Math", "Integer", "Long");

    /** What the program has no need of: each with the number of the rule that forbids it. */
    private static final String[][] FORBIDDEN = {
        {"2", "->"}, {"2", "::"}, {"3", "\\[\\]\\s*\\w*\\s*\\[\\]\\s*\\["}, {"3", "\\b(?:double|float)\\b"},
        {"4", "\\bimport\\b"}, {"4", "\\w+Exact\\b"}, {"5", "\\bstatic\\s*\\{"},
        {"6", "\\b(?:throw|throws|try|catch|finally|synchronized|assert)\\b"}, {"6", "\\b(?:equals|hashCode|toString)\\b"},
        {"9", "\\bwhile\\s*\\(\\s*true\\b"}, {"9", "\\bfor\\s*\\([^;)]*;\\s*;"},
        {"13", "\\b(?:System|Thread|Runtime|Random|Object|Class)\\b"}};

    private static final List<String> wrong = new ArrayList<>();

    public static void main(String[] args) throws IOException {
        String text = withoutComments(Files.readString(SOURCE));
        forbidden(text);
        library(text);
        lengths(text);
        List<Class<?>> classes = new ArrayList<>(Arrays.asList(TrueWeights.class.getDeclaredClasses()));
        classes.add(TrueWeights.class);
        if (classes.size() > MOST_CLASSES) wrong.add("rule 11: " + classes.size() + " classes");
        for (Class<?> c : classes) members(c);
        for (String line : wrong) System.out.println(line);
        System.out.println(wrong.isEmpty() ? "the language is as due" : wrong.size() + " parts are outside the language");
        if (!wrong.isEmpty()) System.exit(1);
    }

    /** Line ends stay, so that a line's number is still the file's. */
    private static String withoutComments(String text) {
        Matcher m = Pattern.compile("/\\*.*?\\*/|//[^\\n]*", Pattern.DOTALL).matcher(text);
        return m.replaceAll(r -> r.group().replaceAll("[^\\n]", ""));
    }

    private static int lineAt(String text, int place) {
        return (int) text.substring(0, place).chars().filter(c -> c == '\n').count() + 1;
    }

    private static void forbidden(String text) {
        for (String[] rule : FORBIDDEN) {
            Matcher m = Pattern.compile(rule[1]).matcher(text);
            while (m.find()) wrong.add("rule " + rule[0] + ", line " + lineAt(text, m.start()) + ": " + m.group());
        }
    }

    private static void library(String text) {
        Matcher m = Pattern.compile("(?<![\\w.])([A-Z][a-z]\\w*)\\s*\\.").matcher(text);
        while (m.find()) {
            if (!LIBRARY.contains(m.group(1))) wrong.add("rule 4, line " + lineAt(text, m.start()) + ": " + m.group(1));
        }
    }

    /** A method's last line is the first brace that stands as far in as its heading does. */
    private static void lengths(String text) {
        String[] lines = text.split("\n", -1);
        Pattern heading = Pattern.compile("( +)(?:[\\w\\[\\]]+ +)*[\\w\\[\\]]+\\([^;]*\\) \\{");
        for (int n = 0; n < lines.length; n++) {
            Matcher m = heading.matcher(lines[n]);
            if (!m.matches() || lines[n].matches(" +(?:if|for|while|switch|\\}).*")) continue;
            int end = n;
            while (end < lines.length && !lines[end].equals(m.group(1) + "}")) end++;
            if (end - n + 1 > MOST_LINES) wrong.add("rule 11, line " + (n + 1) + ": " + (end - n + 1) + " lines");
        }
    }

    private static void members(Class<?> c) {
        List<Executable> calls = new ArrayList<>(Arrays.asList(c.getDeclaredMethods()));
        calls.addAll(Arrays.asList(c.getDeclaredConstructors()));
        for (Executable call : calls) {
            if (call.getParameterCount() > MOST_PARAMETERS) wrong.add("rule 11: " + call + " takes too many");
        }
        int fields = 0;
        for (Field f : c.getDeclaredFields()) {
            if (!Modifier.isStatic(f.getModifiers())) fields++;
            else if (!Modifier.isFinal(f.getModifiers()) || !CONSTANTS.contains(f.getType())) wrong.add("rule 5: " + f);
        }
        if (fields > MOST_FIELDS) wrong.add("rule 11: " + c + " has " + fields + " fields");
    }
}
