import java.io.IOException;
import java.lang.reflect.Field;
import java.lang.reflect.Method;
import java.lang.reflect.Modifier;
import java.nio.file.Files;
import java.nio.file.Path;
import java.util.Arrays;
import java.util.HashSet;
import java.util.LinkedHashMap;
import java.util.List;
import java.util.Map;
import java.util.Set;
import java.util.TreeSet;
import java.util.regex.Matcher;
import java.util.regex.Pattern;

/** The public face is the document's and no more; the source keeps to what can be seen of LANGUAGE.md. */
final class FaceTest {
    private static final Path SOURCE = Path.of("src/main/java/CoverRings.java");
    private static final Path DOCUMENT = Path.of("../shared/DOC.md");
    private static final Pattern HEAD =
            Pattern.compile("(?: {4}| {8})(?:public |private |static )*(?!public )[\\w\\[\\]]+ (\\w+)\\([^)]*\\).*\\{");
    private static final Pattern CALLED = Pattern.compile("\\b(\\w+)\\(");
    private static final int MOST_CALLS = 8;
    private static int wrong;

    private static void fault(String text) {
        wrong++;
        System.out.println(text);
    }

    public static void main(String[] args) throws IOException {
        faceIsTheDocuments();
        nothingElseIsVisible();
        sourceKeepsToTheLanguage();
        methodsAreShort();
        callsStayShallow();
        System.out.println(wrong == 0 ? "the face is as due" : wrong + " faults");
        if (wrong != 0) {
            System.exit(1);
        }
    }

    private static void faceIsTheDocuments() throws IOException {
        Set<String> want = new TreeSet<>();
        Matcher told = Pattern.compile("(?m)^    public (?!static|CoverRings)(.*\\)).*;$").matcher(Files.readString(DOCUMENT));
        while (told.find()) {
            want.add(told.group(1).replaceAll(" \\w+([,)])", "$1"));
        }
        Set<String> got = new TreeSet<>();
        for (Method m : CoverRings.class.getDeclaredMethods()) {
            if (Modifier.isPublic(m.getModifiers())) {
                StringBuilder s = new StringBuilder(m.getReturnType() + " " + m.getName() + "(");
                Class<?>[] types = m.getParameterTypes();
                for (int i = 0; i < types.length; i++) {
                    s.append(i == 0 ? "" : ", ").append(types[i]);
                }
                got.add(s.append(")").toString());
            }
        }
        if (want.size() != 31 || !want.equals(got)) {
            fault("the face is " + got + ", due is " + want);
        }
        if (!Modifier.isFinal(CoverRings.class.getModifiers()) || !Modifier.isPublic(CoverRings.class.getModifiers())) {
            fault("the class is not public and final");
        }
        if (CoverRings.class.getDeclaredConstructors().length != 1 || CoverRings.class.getConstructors().length != 1) {
            fault("there is not just the one public constructor");
        }
    }

    private static void nothingElseIsVisible() {
        Set<String> face = new HashSet<>();
        for (Method m : CoverRings.class.getDeclaredMethods()) {
            if (Modifier.isPublic(m.getModifiers())) {
                face.add(m.getName());
            } else if (!Modifier.isPrivate(m.getModifiers())) {
                fault(m + " is visible");
            }
        }
        for (Field f : CoverRings.class.getDeclaredFields()) {
            if (!Modifier.isPrivate(f.getModifiers()) && !f.getName().equals("NONE")) {
                fault(f + " is visible");
            }
            if (!Modifier.isFinal(f.getModifiers())) {
                fault(f + " is not final");
            }
        }
        Class<?>[] inside = CoverRings.class.getDeclaredClasses();
        if (inside.length > 11) {
            fault("there are too many classes");
        }
        lookInto(CoverRings.class, face);
        for (Class<?> c : inside) {
            if (!Modifier.isStatic(c.getModifiers())) {
                fault(c + " is not static");
            }
            lookInto(c, face);
        }
    }

    private static void lookInto(Class<?> c, Set<String> face) {
        for (Method m : c.getDeclaredMethods()) {
            if (face.contains(m.getName()) && !Modifier.isPublic(m.getModifiers())) {
                fault(m + " bears the name of a public method");
            }
            if (m.getParameterCount() > 7) {
                fault(m + " takes too many parameters");
            }
        }
        for (Field f : c.getDeclaredFields()) {
            if (!isOfTheLanguage(f.getType())) {
                fault(f + " is of a type that the language has not");
            }
            if (Modifier.isStatic(f.getModifiers()) && !Modifier.isFinal(f.getModifiers())) {
                fault(f + " is static and not final");
            }
        }
        long fields = Arrays.stream(c.getDeclaredFields()).filter(f -> !Modifier.isStatic(f.getModifiers())).count();
        if (fields > 20) {
            fault(c + " has " + fields + " fields");
        }
    }

    /** Numbers, rows of numbers, classes of our own: the class needs no other. */
    private static boolean isOfTheLanguage(Class<?> type) {
        boolean own = type.getNestHost() == CoverRings.class && !type.isArray();
        return type.isPrimitive() || own || type.isArray() && type.getComponentType().isPrimitive();
    }

    private static void sourceKeepsToTheLanguage() throws IOException {
        List<String> lines = Files.readAllLines(SOURCE);
        String[] refused = {"->", "::", "Exact", "Float.", "Double.", "Character.", "Boolean.", "System.out", "synchronized",
            "finally", "try ", "catch", "assert ", "instanceof", "Object", "package ", "String.", "static {", "String.format"};
        for (int i = 0; i < lines.size(); i++) {
            String line = lines.get(i);
            String code = line.replaceAll("//.*|/\\*\\*.*\\*/", "");
            for (String word : refused) {
                if (code.contains(word)) {
                    fault("line " + (i + 1) + " has '" + word + "': " + line.trim());
                }
            }
            if (code.startsWith("import ") && !code.equals("import java.util.Arrays;")
                    && !code.equals("import java.util.NoSuchElementException;")) {
                fault("line " + (i + 1) + ": " + line);
            }
            // rows are made with the object and used again: no call makes any
            boolean making = code.matches(".*\\bnew\\b.*") && !code.contains("throw new NoSuchElementException()")
                    && !code.matches("        (private )?final .*= new .*;|        \\w+ = new .*;");
            if (making) {
                fault("line " + (i + 1) + " makes an object: " + line.trim());
            }
        }
    }

    /** The lines of each method, by its name; no two methods bear the same one, so a name tells who is called. */
    private static Map<String, String> methods() throws IOException {
        List<String> lines = Files.readAllLines(SOURCE);
        Map<String, String> bodies = new LinkedHashMap<>();
        for (int i = 0; i < lines.size(); i++) {
            String line = lines.get(i);
            Matcher head = HEAD.matcher(line);
            if (head.matches()) {
                String last = " ".repeat(line.length() - line.stripLeading().length()) + "}";
                int end = i;
                while (end < lines.size() - 1 && !lines.get(end).equals(last)) {
                    end++;
                }
                if (bodies.put(head.group(1), String.join("\n", lines.subList(i + 1, end))) != null) {
                    fault("two methods bear the name " + head.group(1));
                }
            }
        }
        return bodies;
    }

    private static void methodsAreShort() throws IOException {
        Map<String, String> bodies = methods();
        for (Map.Entry<String, String> m : bodies.entrySet()) {
            long length = m.getValue().lines().count();
            if (length > 60) {
                fault(m.getKey() + " has " + length + " lines");
            }
        }
        int declared = CoverRings.class.getDeclaredMethods().length;
        for (Class<?> c : CoverRings.class.getDeclaredClasses()) {
            declared += c.getDeclaredMethods().length;
        }
        if (bodies.size() != declared) {
            fault(bodies.size() + " methods were found, there are " + declared);
        }
    }

    private static void callsStayShallow() throws IOException {
        Map<String, String> bodies = methods();
        for (String name : bodies.keySet()) {
            int depth = depth(name, bodies, MOST_CALLS + 1);
            if (depth > MOST_CALLS) {
                fault(name + " goes deeper than " + MOST_CALLS + " calls, or calls itself");
            }
        }
    }

    /** How many calls stand open at once, the first one with them; looks no deeper than it may. */
    private static int depth(String name, Map<String, String> bodies, int may) {
        int deepest = 0;
        Matcher called = CALLED.matcher(bodies.get(name));
        while (may > 1 && called.find()) {
            if (bodies.containsKey(called.group(1))) {
                deepest = Math.max(deepest, depth(called.group(1), bodies, may - 1));
            }
        }
        return deepest + 1;
    }
}
