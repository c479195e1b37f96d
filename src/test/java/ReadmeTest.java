import java.io.IOException;
import java.io.UncheckedIOException;
import java.lang.reflect.Method;
import java.lang.reflect.Modifier;
import java.nio.file.Files;
import java.nio.file.Path;
import java.util.ArrayList;
import java.util.Comparator;
import java.util.List;
import java.util.regex.Matcher;
import java.util.regex.Pattern;
import java.util.stream.Stream;

/** README.md: each example answers as it says, each command for the tests works as it is written. */
final class ReadmeTest {
    private static final Path PROJECT = Path.of("").toAbsolutePath();
    private static final String MADE = "Examples";
    private static final Pattern EXAMPLE = Pattern.compile("(?ms)^```java\n(.*?)^```$");
    /** A call of the object with its answer behind it; it may be kept in a variable. */
    private static final Pattern ASKED = Pattern.compile("(?:(\\w+ \\w+) = )?(.*\\bx\\..*\\));\\s+// (\\S+?)(?:: .*)?");
    private static final Pattern COMMAND = Pattern.compile("(?m)^    (\\S.*)$");
    private static int wrong;

    private static void fault(String text) {
        wrong++;
        System.out.println(text);
    }

    public static void main(String[] args) throws IOException, InterruptedException {
        String readme = Files.readString(PROJECT.resolve("README.md"));
        List<String> examples = new ArrayList<>();
        Matcher block = EXAMPLE.matcher(readme);
        while (block.find()) {
            examples.add(block.group(1));
        }
        everyCallHasAnExample(examples);
        Path room = Files.createTempDirectory("readme");
        try {
            examplesAnswerAsTheySay(examples, room);
            commandsWork(EXAMPLE.matcher(readme).replaceAll(""), room);
        } finally {
            remove(room);
        }
        System.out.println(wrong == 0 ? "README.md holds (" + examples.size() + " examples)" : wrong + " faults");
        if (wrong != 0) {
            System.exit(1);
        }
    }

    private static void everyCallHasAnExample(List<String> examples) {
        String all = String.join("", examples);
        for (Method m : CoverRings.class.getDeclaredMethods()) {
            if (Modifier.isPublic(m.getModifiers()) && !all.contains("x." + m.getName() + "(")) {
                fault("README.md has no example of " + m.getName());
            }
        }
    }

    private static void examplesAnswerAsTheySay(List<String> examples, Path room) throws IOException, InterruptedException {
        StringBuilder code = new StringBuilder("final class " + MADE + " {\n");
        StringBuilder main = new StringBuilder();
        for (int i = 0; i < examples.size(); i++) {
            code.append("static void example").append(i).append("() {\n").append(checked(examples.get(i))).append("}\n");
            main.append("example").append(i).append("();\n");
        }
        code.append("static int wrong;\n")
                .append("static void due(String call, Object got, String want) {\n")
                .append("if (!String.valueOf(got).equals(want)) { wrong++;\n")
                .append("System.out.println(\"README.md says \" + want + \" of \" + call + \", it answers \" + got); } }\n")
                .append("public static void main(String[] args) {\n").append(main)
                .append("System.exit(wrong == 0 ? 0 : 1);\n} }\n");
        Path made = Files.writeString(room.resolve(MADE + ".java"), code);
        String source = PROJECT.resolve("src/main/java/CoverRings.java").toString();
        if (!works(room, "javac", "-d", room.toString(), source, made.toString()) || !works(room, "java", "-cp", room.toString(), MADE)) {
            fault("the examples do not hold");
        }
    }

    /** The lines of an example, each answer held against what it says. */
    private static String checked(String example) {
        StringBuilder code = new StringBuilder();
        for (String line : example.split("\n")) {
            Matcher asked = ASKED.matcher(line);
            if (!asked.matches()) {
                if (line.contains("x.")) {
                    fault("README.md does not say what this answers: " + line);
                }
                code.append(line).append("\n");
            } else if (asked.group(3).endsWith("Exception")) {
                code.append("try { due(\"").append(asked.group(2)).append("\", ").append(asked.group(2)).append(", \"")
                        .append(asked.group(3)).append("\"); } catch (java.util.").append(asked.group(3)).append(" e) { }\n");
            } else {
                String got = asked.group(2);
                if (asked.group(1) != null) {
                    code.append(asked.group(1)).append(" = ").append(got).append(";\n");
                    got = asked.group(1).split(" ")[1];
                }
                code.append("due(\"").append(asked.group(2)).append("\", ").append(got).append(", \"")
                        .append(asked.group(3)).append("\");\n");
            }
        }
        return code.toString();
    }

    /** In a directory that has the project's sources beside ../shared, so that nothing is made in the checkout. */
    private static void commandsWork(String text, Path room) throws IOException, InterruptedException {
        Path there = Files.createDirectories(room.resolve("main"));
        Files.createSymbolicLink(there.resolve("src"), PROJECT.resolve("src"));
        Files.createSymbolicLink(room.resolve("shared"), PROJECT.resolve("../shared"));
        int met = 0;
        Matcher command = COMMAND.matcher(text);
        while (command.find()) {
            met++;
            String told = command.group(1);
            boolean holds = told.equals(".ci/run") ? Files.isExecutable(PROJECT.resolve(told)) : works(there, "sh", "-c", told);
            if (!holds) {
                fault("this command of README.md does not work: " + told);
            }
        }
        if (met < 2) {
            fault("README.md names " + met + " commands for the tests");
        }
    }

    private static boolean works(Path in, String... command) throws IOException, InterruptedException {
        Process process = new ProcessBuilder(command).directory(in.toFile()).redirectErrorStream(true).start();
        String said = new String(process.getInputStream().readAllBytes());
        boolean holds = process.waitFor() == 0;
        if (!holds) {
            System.out.print(said);
        }
        return holds;
    }

    private static void remove(Path room) throws IOException {
        try (Stream<Path> paths = Files.walk(room)) {
            paths.sorted(Comparator.reverseOrder()).forEach(ReadmeTest::removeOne);
        }
    }

    private static void removeOne(Path path) {
        try {
            Files.delete(path);
        } catch (IOException e) {
            throw new UncheckedIOException(e);
        }
    }
}
