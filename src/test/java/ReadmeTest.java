import java.io.IOException;
import java.lang.reflect.Method;
import java.lang.reflect.Modifier;
import java.net.URL;
import java.net.URLClassLoader;
import java.nio.file.Files;
import java.nio.file.Path;
import java.util.ArrayList;
import java.util.List;
import java.util.Set;
import java.util.TreeSet;
import java.util.regex.Matcher;
import java.util.regex.Pattern;
import java.util.stream.Stream;
import javax.tools.ToolProvider;

/** What README.md shows of the class's use, compiled as it stands there: each call answers what stands behind it. */
public final class ReadmeTest {
    private static final Path README = Path.of("README.md");
    private static final Path TESTS = Path.of("src/test/java");
    private static final Pattern BLOCK = Pattern.compile("```java\n(.*?)```", Pattern.DOTALL);
    private static final Pattern CALL = Pattern.compile("(pages\\.(\\w+)\\(.*\\)); +// (-?\\d+): .+");
    private static final Pattern NAME_OF_TEST = Pattern.compile("\\b[A-Z]\\w*Test\\b");
    private static final String PROGRAM = "ReadmeProgram";

    private final Check check = new Check();
    private final StringBuilder members = new StringBuilder();
    private final StringBuilder statements = new StringBuilder();
    private final List<String> calls = new ArrayList<>();
    private final List<Long> due = new ArrayList<>();
    private final Set<String> shown = new TreeSet<>();

    public static void main(String[] args) throws IOException, ReflectiveOperationException {
        ReadmeTest test = new ReadmeTest();
        String page = Files.readString(README);
        test.read(page);
        test.dueAnswers(test.answers());
        test.dueWholeFace();
        test.dueNamesOfTests(page);
        test.check.end();
    }

    private void read(String page) {
        Matcher blocks = BLOCK.matcher(page);
        while (blocks.find()) {
            String block = blocks.group(1);
            if (block.startsWith("static ")) {
                members.append(block);
            } else {
                block.lines().forEach(this::readStatement);
            }
        }
    }

    private void readStatement(String line) {
        Matcher call = CALL.matcher(line);
        if (call.matches()) {
            calls.add(call.group(1));
            shown.add(call.group(2));
            due.add(Long.parseLong(call.group(3)));
            statements.append("answers.add((long) ").append(call.group(1)).append(");\n");
        } else {
            check.due("told with its answer: " + line, line.startsWith("pages.") ? 0 : 1, 1);
            statements.append(line).append('\n');
        }
    }

    /** The program of the page, with each answer kept in a list. */
    private String program() {
        return "import java.util.*;\npublic final class " + PROGRAM + " {\n" + members
                + "public static List<Long> answers() {\nList<Long> answers = new ArrayList<>();\n" + statements
                + "return answers;\n}\n}\n";
    }

    private List<?> answers() throws IOException, ReflectiveOperationException {
        Path folder = Files.createTempDirectory("readme");
        try {
            Path source = Files.writeString(folder.resolve(PROGRAM + ".java"), program());
            int exit = ToolProvider.getSystemJavaCompiler().run(null, null, null, "-cp",
                    System.getProperty("java.class.path"), "-d", folder.toString(), source.toString());
            check.due("javac of the program in README.md", exit, 0);
            return exit == 0 ? run(folder) : List.of();
        } finally {
            clear(folder);
        }
    }

    private static List<?> run(Path folder) throws IOException, ReflectiveOperationException {
        try (URLClassLoader loader = new URLClassLoader(new URL[] {folder.toUri().toURL()})) {
            return (List<?>) loader.loadClass(PROGRAM).getMethod("answers").invoke(null);
        }
    }

    private static void clear(Path folder) throws IOException {
        for (Path file : files(folder)) {
            Files.delete(file);
        }
        Files.delete(folder);
    }

    private static List<Path> files(Path folder) throws IOException {
        try (Stream<Path> files = Files.list(folder)) {
            return files.toList();
        }
    }

    private void dueAnswers(List<?> answers) {
        check.due("calls with an answer", answers.size(), due.size());
        for (int i = 0; i < answers.size() && i < due.size(); i++) {
            check.due("README.md: " + calls.get(i), (Long) answers.get(i), due.get(i));
        }
    }

    private void dueWholeFace() {
        for (Method method : BorrowedPages.class.getDeclaredMethods()) {
            if (Modifier.isPublic(method.getModifiers())) {
                check.due("README.md shows " + method.getName(), shown.contains(method.getName()) ? 1 : 0, 1);
            }
        }
    }

    private void dueNamesOfTests(String page) throws IOException {
        Set<String> named = new TreeSet<>();
        NAME_OF_TEST.matcher(page).results().forEach(name -> named.add(name.group()));
        Set<String> there = new TreeSet<>();
        for (Path file : files(TESTS)) {
            String name = file.getFileName().toString().replace(".java", "");
            if (name.endsWith("Test")) {
                there.add(name);
            }
        }
        check.due("tests " + there + ", named in README.md " + named, named.equals(there) ? 1 : 0, 1);
    }
}
