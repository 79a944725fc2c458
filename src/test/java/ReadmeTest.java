import java.io.IOException;
import java.lang.reflect.Method;
import java.lang.reflect.Modifier;
import java.nio.file.Files;
import java.nio.file.Path;
import java.util.ArrayList;
import java.util.HashMap;
import java.util.List;
import java.util.Map;
import java.util.Set;
import java.util.TreeSet;
import java.util.regex.Matcher;
import java.util.regex.Pattern;

/** What README.md tells of the class: its example call by call, and its table of all calls. */
public final class ReadmeTest {
    private static final Check CHECK = new Check("ReadmeTest");
    private static final String START = "LateCopies x = new LateCopies();";
    private static final Pattern CALL = Pattern.compile("x\\.(\\w+)\\((.*?)\\); +// (-?\\d+)(?:: .*)?");
    private static final Pattern ROW = Pattern.compile("\\| `(\\w+)\\(([^)]*)\\)` \\|[^|]*\\| ?([^|]*)\\|");
    private static final Pattern REFUSAL = Pattern.compile("\\b(?:UNKNOWN|OUTSIDE|STATE|FULL)\\b");

    public static void main(String[] args) throws ReflectiveOperationException, IOException {
        String text = Files.readString(Path.of("README.md"));
        playExample(example(text));
        compareTable(text.split("\n"), refusalsByName(new Sentences(Path.of("../shared/DOC.md"))));
        CHECK.end();
    }

    private static List<String> example(String text) {
        int from = text.indexOf("```java\n" + START);
        CHECK.holds("there is an example that begins with " + START, from >= 0);
        List<String> lines = new ArrayList<>();
        if (from >= 0) {
            String inside = text.substring(from + "```java\n".length());
            lines.addAll(List.of(inside.substring(0, inside.indexOf("```")).split("\n")));
            lines.remove(0);
        }
        return lines;
    }

    private static void playExample(List<String> lines) throws ReflectiveOperationException {
        LateCopies x = new LateCopies();
        Set<String> used = new TreeSet<>();
        for (String line : lines) {
            Matcher call = CALL.matcher(line);
            boolean isCall = call.matches();
            CHECK.holds("a call with its answer: " + line, isCall);
            if (isCall) {
                used.add(call.group(1));
                CHECK.due("README.md: x." + call.group(1) + "(" + call.group(2) + ")",
                    answer(x, call.group(1), call.group(2)), Long.parseLong(call.group(3)));
            }
        }
        CHECK.holds("the example uses every call: " + used, used.equals(publicNames()));
    }

    private static long answer(LateCopies x, String name, String arguments) throws ReflectiveOperationException {
        Method method = methodOf(name);
        String[] texts = arguments.isEmpty() ? new String[0] : arguments.split(", ");
        Object[] values = new Object[texts.length];
        for (int i = 0; i < texts.length; i++) {
            values[i] = valueOf(texts[i]);
        }
        return ((Number) method.invoke(x, values)).longValue();
    }

    private static Object valueOf(String text) {
        if (text.equals("true") || text.equals("false")) {
            return Boolean.valueOf(text);
        }
        return text.startsWith("'") ? (int) text.charAt(1) : Integer.parseInt(text);
    }

    private static void compareTable(String[] lines, Map<String, List<String>> refusals) {
        Set<String> told = new TreeSet<>();
        for (String line : lines) {
            Matcher row = ROW.matcher(line);
            if (row.matches()) {
                String name = row.group(1);
                CHECK.holds("one row for " + name, told.add(name));
                int arguments = row.group(2).isEmpty() ? 0 : row.group(2).split(", ").length;
                CHECK.due("README.md: arguments of " + name, arguments, methodOf(name).getParameterCount());
                CHECK.holds("README.md: refusals of " + name + " as in the document: " + row.group(3),
                    refusalsIn(row.group(3)).equals(refusals.get(name)));
            }
        }
        CHECK.holds("the table has every call: " + told, told.equals(publicNames()));
    }

    private static Map<String, List<String>> refusalsByName(Sentences document) {
        Map<String, List<String>> refusals = new HashMap<>();
        for (int promise = 1; promise <= document.promises(); promise++) {
            refusals.put(document.nameOf(promise), refusalsIn(document.textOf(promise)));
        }
        return refusals;
    }

    private static List<String> refusalsIn(String text) {
        List<String> found = new ArrayList<>();
        Matcher refusal = REFUSAL.matcher(text);
        while (refusal.find()) {
            found.add(refusal.group());
        }
        return found;
    }

    private static Method methodOf(String name) {
        for (Method m : LateCopies.class.getDeclaredMethods()) {
            if (Modifier.isPublic(m.getModifiers()) && m.getName().equals(name)) {
                return m;
            }
        }
        throw new IllegalArgumentException("README.md tells of a call that is not there: " + name);
    }

    private static Set<String> publicNames() {
        Set<String> names = new TreeSet<>();
        for (Method m : LateCopies.class.getDeclaredMethods()) {
            if (Modifier.isPublic(m.getModifiers())) {
                names.add(m.getName());
            }
        }
        return names;
    }
}
