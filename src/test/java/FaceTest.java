import java.io.IOException;
import java.lang.reflect.Constructor;
import java.lang.reflect.Field;
import java.lang.reflect.Method;
import java.lang.reflect.Modifier;
import java.nio.file.Files;
import java.nio.file.Path;
import java.util.Arrays;
import java.util.Map;
import java.util.Set;
import java.util.TreeMap;
import java.util.TreeSet;
import java.util.regex.Matcher;
import java.util.regex.Pattern;
import java.util.stream.Collectors;

/** The public face of the document, and the rules of LANGUAGE.md that can be read off the class or its source. */
public final class FaceTest {
    private static final Check CHECK = new Check("FaceTest");
    private static final Set<String> FACE = Set.of(
        "int letter(int)", "int blank()", "int fault()", "int line()", "int set(int,int)", "int put(int,int,int)",
        "int remove(int,int,int)", "int pass(int)", "int off(int,boolean)", "int exchange(int,int)",
        "int rumour(int,int)", "int has(int,int,int)", "int newest(int,int)", "int alike(int,int)",
        "int risen(int)", "int partner(int,int,int)", "int settle(int,boolean,int)", "int count(int)",
        "long digest()");
    private static final Set<String> CONSTANTS = Set.of("NONE", "UNKNOWN", "OUTSIDE", "STATE", "FULL");
    private static final Pattern METHOD = Pattern.compile(
        "^ +(?:public|private) (?:static )?(?:int|long|boolean|void|Item) (\\w+)\\([^)]*\\) \\{$");
    private static final Pattern CONSTRUCTOR = Pattern.compile("^ +(?:public|private) ([A-Z]\\w*)\\([^)]*\\) \\{$");

    public static void main(String[] args) throws IOException {
        face();
        membersElse();
        classesInside();
        String source = Files.readString(Path.of("src/main/java/LateCopies.java"));
        words(withoutComments(source));
        methods(withoutComments(source).split("\n"));
        CHECK.end();
    }

    private static String sign(Method m) {
        return m.getReturnType().getSimpleName() + " " + m.getName() + "("
            + Arrays.stream(m.getParameterTypes()).map(Class::getSimpleName).collect(Collectors.joining(",")) + ")";
    }

    private static void face() {
        Class<?> type = LateCopies.class;
        CHECK.holds("the class is public and final",
            Modifier.isPublic(type.getModifiers()) && Modifier.isFinal(type.getModifiers()));
        Set<String> seen = new TreeSet<>();
        for (Method m : type.getDeclaredMethods()) {
            if (Modifier.isPublic(m.getModifiers())) {
                seen.add(sign(m));
                CHECK.holds(m.getName() + " is of an object", !Modifier.isStatic(m.getModifiers()));
            }
        }
        CHECK.holds("the public methods are those of the document: " + seen, seen.equals(FACE));
        Set<String> fields = new TreeSet<>();
        for (Field f : type.getDeclaredFields()) {
            if (Modifier.isPublic(f.getModifiers())) {
                fields.add(f.getName());
                CHECK.holds(f.getName() + " is a constant", Modifier.isStatic(f.getModifiers())
                    && Modifier.isFinal(f.getModifiers()) && f.getType() == int.class);
            }
        }
        CHECK.holds("the constants are those of the document: " + fields, fields.equals(CONSTANTS));
        CHECK.holds("one public constructor without arguments", type.getDeclaredConstructors().length == 1
            && type.getConstructors().length == 1 && type.getConstructors()[0].getParameterCount() == 0);
    }

    private static void membersElse() {
        Set<String> publicNames = FACE.stream().map(s -> s.replaceAll("^\\w+ |\\(.*", ""))
            .collect(Collectors.toSet());
        for (Method m : LateCopies.class.getDeclaredMethods()) {
            boolean isPrivate = Modifier.isPrivate(m.getModifiers());
            CHECK.holds(m.getName() + " is public or private", isPrivate || Modifier.isPublic(m.getModifiers()));
            CHECK.holds(m.getName() + " has a name of its own", !isPrivate || !publicNames.contains(m.getName()));
        }
        for (Class<?> inside : LateCopies.class.getDeclaredClasses()) {
            for (Method m : inside.getDeclaredMethods()) {
                CHECK.holds(m.getName() + " inside has a name of its own", !publicNames.contains(m.getName()));
            }
        }
        for (Field f : LateCopies.class.getDeclaredFields()) {
            CHECK.holds(f.getName() + " is public or private",
                Modifier.isPublic(f.getModifiers()) || Modifier.isPrivate(f.getModifiers()));
        }
        oneClass(LateCopies.class);
    }

    private static void classesInside() {
        Class<?>[] inside = LateCopies.class.getDeclaredClasses();
        CHECK.holds("at most eleven classes inside", inside.length <= 11);
        for (Class<?> type : inside) {
            int modifiers = type.getModifiers();
            CHECK.holds(type.getName() + " is static and not public", Modifier.isStatic(modifiers)
                && !Modifier.isPublic(modifiers) && !Modifier.isProtected(modifiers));
            oneClass(type);
        }
    }

    private static void oneClass(Class<?> type) {
        int fields = 0;
        for (Field f : type.getDeclaredFields()) {
            if (Modifier.isStatic(f.getModifiers())) {
                CHECK.holds("static " + f.getName() + " is final", Modifier.isFinal(f.getModifiers()));
            } else {
                fields++;
            }
        }
        CHECK.holds(type.getName() + " has at most twenty fields", fields <= 20);
        for (Method m : type.getDeclaredMethods()) {
            CHECK.holds(m.getName() + " takes at most seven", m.getParameterCount() <= 7);
        }
        for (Constructor<?> c : type.getDeclaredConstructors()) {
            CHECK.holds(type.getName() + " takes at most seven", c.getParameterCount() <= 7);
        }
    }

    private static String withoutComments(String source) {
        return source.replaceAll("(?s)/\\*.*?\\*/", "").replaceAll("//[^\n]*", "");
    }

    private static void words(String code) {
        String[] banned = {"throw", "throws", "try", "catch", "synchronized", "assert", "import", "package",
            "protected", "hashCode", "toString", "Exact", "System.out", "->", "::"};
        for (String word : banned) {
            String edge = Character.isLetter(word.charAt(0)) ? "\\b" : "";
            CHECK.holds("no '" + word + "'", !Pattern.compile(edge + Pattern.quote(word) + edge).matcher(code).find());
        }
        Set<String> library = new TreeSet<>();
        Matcher calls = Pattern.compile("\\b(System|Math|Integer|Long|Arrays)\\.(\\w+)").matcher(code);
        while (calls.find()) {
            library.add(calls.group());
        }
        library.removeAll(Set.of("System.arraycopy", "Math.abs", "Integer.bitCount"));
        CHECK.holds("no library but what the rules list: " + library, library.isEmpty());
        CHECK.holds("signs 1 to 127 alone", code.chars().allMatch(c -> c >= 1 && c <= 127));
    }

    /** Lengths of methods, how deep they call one another, and that no call makes an object. */
    private static void methods(String[] lines) {
        Map<String, String> bodies = new TreeMap<>();
        for (int i = 0; i < lines.length; i++) {
            boolean isConstructor = CONSTRUCTOR.matcher(lines[i]).matches();
            Matcher head = METHOD.matcher(lines[i]);
            boolean isMethod = head.matches();
            if (!isMethod && !isConstructor) {
                continue;
            }
            String end = lines[i].replaceAll("\\S.*", "") + "}";
            StringBuilder body = new StringBuilder();
            int length = 0;
            for (int j = i + 1; j < lines.length && !lines[j].equals(end); j++) {
                body.append(lines[j]).append('\n');
                length++;
            }
            CHECK.holds("at most sixty lines: " + lines[i].trim(), length <= 60);
            if (isMethod) {
                CHECK.holds(head.group(1) + " is written once", bodies.put(head.group(1), body.toString()) == null);
                CHECK.holds(head.group(1) + " makes no object", !body.toString().contains("new "));
            }
        }
        CHECK.holds("methods were found", bodies.size() > 40);
        for (String name : bodies.keySet()) {
            int depth = depth(name, bodies, 0);
            CHECK.holds(name + " goes at most eight deep: " + depth, depth <= 8);
        }
    }

    private static int depth(String name, Map<String, String> bodies, int above) {
        int deepest = 0;
        if (above > 12) {
            return 1;
        }
        Matcher called = Pattern.compile("(\\w+)\\(").matcher(bodies.get(name));
        while (called.find()) {
            if (bodies.containsKey(called.group(1))) {
                deepest = Math.max(deepest, depth(called.group(1), bodies, above + 1));
            }
        }
        return 1 + deepest;
    }
}
