import java.io.IOException;
import java.lang.reflect.Constructor;
import java.lang.reflect.Field;
import java.lang.reflect.Method;
import java.lang.reflect.Modifier;
import java.nio.file.Files;
import java.nio.file.Path;
import java.util.List;
import java.util.Set;
import java.util.TreeSet;
import java.util.regex.Matcher;
import java.util.regex.Pattern;

/** The document's face, and those rules of LANGUAGE.md that can be seen from the class and its text. */
public final class RulesTest {
    private static final Check check = new Check();
    private static final Path SOURCE = Path.of("src/main/java/BorrowedPages.java");
    private static final Set<String> FACE = Set.of("int type(long, int)", "int book(int, int, int)", "int withdraw(int)",
            "long token(int, int)", "int windows(int, int)", "int gap(int)", "int link(int)", "int given(int)",
            "int hash(int, int)", "int markAt(int, int)", "int aside(int, int)", "int runs(int, int)",
            "int run(int, int, int, int)", "int score(int, int)", "int chain(int, int, int)", "int covered(int, int)",
            "int group(int)", "int first(int)", "int count(int)", "int chance(int, int)");
    private static final List<String> FORBIDDEN = List.of("throw", "try", "catch", "synchronized", "assert", "import",
            "package", "native", "volatile", "Object", "System", "Arrays", "Random", "Thread");

    public static void main(String[] args) throws IOException {
        face();
        constants();
        insides();
        text();
        check.end();
    }

    private static void rule(String what, boolean kept) {
        check.due(what, kept ? 1 : 0, 1);
    }

    private static void face() {
        Class<?> whole = BorrowedPages.class;
        rule("final", Modifier.isFinal(whole.getModifiers()) && Modifier.isPublic(whole.getModifiers()));
        rule("no class above", whole.getSuperclass() == Object.class && whole.getInterfaces().length == 0);
        Set<String> found = new TreeSet<>();
        Set<String> publicNames = new TreeSet<>();
        for (Method method : whole.getDeclaredMethods()) {
            if (Modifier.isPrivate(method.getModifiers())) {
                continue;
            }
            rule("public: " + method, Modifier.isPublic(method.getModifiers()) && !Modifier.isStatic(method.getModifiers()));
            publicNames.add(method.getName());
            String parameters = List.of(method.getParameterTypes()).toString().replace("[", "(").replace("]", ")");
            found.add(method.getReturnType() + " " + method.getName() + parameters);
        }
        rule("the face is " + found, found.equals(new TreeSet<>(FACE)));
        for (Method method : whole.getDeclaredMethods()) {
            rule("no private " + method, Modifier.isPublic(method.getModifiers()) || !publicNames.contains(method.getName()));
        }
        Constructor<?>[] constructors = whole.getDeclaredConstructors();
        rule("one constructor", constructors.length == 1 && constructors[0].getParameterCount() == 0
                && Modifier.isPublic(constructors[0].getModifiers()));
    }

    private static void constants() {
        Set<String> open = new TreeSet<>();
        for (Field field : BorrowedPages.class.getDeclaredFields()) {
            if (!Modifier.isPrivate(field.getModifiers())) {
                open.add(field.toGenericString());
            }
        }
        Set<String> want = new TreeSet<>();
        for (String name : List.of("BAD", "NOT", "FULL", "NONE")) {
            want.add("public static final int BorrowedPages." + name);
        }
        rule("the constants are " + open, open.equals(want));
        check.due("BAD", BorrowedPages.BAD, -1);
        check.due("NOT", BorrowedPages.NOT, -2);
        check.due("FULL", BorrowedPages.FULL, -3);
        check.due("NONE", BorrowedPages.NONE, -4);
    }

    private static void insides() {
        Class<?>[] inside = BorrowedPages.class.getDeclaredClasses();
        rule("at most twelve classes", inside.length < 12);
        fields(BorrowedPages.class);
        for (Class<?> one : inside) {
            int marks = one.getModifiers();
            rule(one + " is static and not open", Modifier.isStatic(marks) && !Modifier.isPublic(marks) && !Modifier.isProtected(marks));
            fields(one);
        }
    }

    private static void fields(Class<?> of) {
        int own = 0;
        for (Field field : of.getDeclaredFields()) {
            boolean shared = Modifier.isStatic(field.getModifiers());
            rule(field + " is final", !shared || Modifier.isFinal(field.getModifiers()));
            own += shared ? 0 : 1;
        }
        rule("at most twenty fields in " + of, own <= 20);
        for (Method method : of.getDeclaredMethods()) {
            rule("at most seven parameters in " + method, method.getParameterCount() <= 7);
        }
    }

    private static void text() throws IOException {
        String bare = Files.readString(SOURCE).replaceAll("(?s)/\\*.*?\\*/", "").replaceAll("//[^\n]*", "");
        for (String word : FORBIDDEN) {
            rule("no " + word, !Pattern.compile("\\b" + word + "\\b").matcher(bare).find());
        }
        rule("no lambda or method reference", !bare.contains("->") && !bare.contains("::"));
        Matcher methods = Pattern.compile("(?m)^( +)[^\n;=]*\\) \\{\n(.*\n)*?\\1\\}").matcher(bare);
        int seen = 0;
        while (methods.find()) {
            seen++;
            rule("short: " + methods.group().lines().findFirst().orElse(""), methods.group().lines().count() <= 60);
        }
        rule("methods were seen", seen > 20);
    }
}
