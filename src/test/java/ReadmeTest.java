import java.io.ByteArrayOutputStream;
import java.io.IOException;
import java.io.PrintStream;
import java.lang.reflect.Method;
import java.lang.reflect.Modifier;
import java.net.URL;
import java.net.URLClassLoader;
import java.nio.charset.StandardCharsets;
import java.nio.file.Files;
import java.nio.file.Path;
import java.util.List;
import java.util.TreeSet;
import java.util.regex.Matcher;
import java.util.regex.Pattern;
import java.util.stream.Stream;
import javax.tools.ToolProvider;

/** README.md as it stands: its example, and that it names every call and every test. Run in the project's directory. */
public final class ReadmeTest {
    private static final Check check = new Check();

    public static void main(String[] args) throws Exception {
        String page = Files.readString(Path.of("README.md"), StandardCharsets.UTF_8);
        example(block(page, "java"), block(page, "text"));
        calls(page);
        tests(page);
        files(page);
        check.end();
    }

    private static String block(String page, String kind) {
        Matcher found = Pattern.compile("```" + kind + "\n(.*?)```", Pattern.DOTALL).matcher(page);
        check.due("a block of " + kind, found.find(), true);
        return found.group(1);
    }

    private static void example(String code, String due) throws Exception {
        Path room = Files.createTempDirectory("readme");
        try {
            Path file = Files.writeString(room.resolve("Example.java"), code);
            int ended = ToolProvider.getSystemJavaCompiler().run(null, null, null, "-d", room.toString(), "-cp",
                System.getProperty("java.class.path"), file.toString());
            check.due("javac of the example", ended, 0);
            String got = ended == 0 ? printed(room) : "";
            if (!got.equals(due)) {
                System.out.println("the example prints:\n" + got);
            }
            check.due("what the example prints", got.equals(due), true);
        } finally {
            clear(room);
        }
    }

    private static String printed(Path room) throws Exception {
        PrintStream screen = System.out;
        ByteArrayOutputStream kept = new ByteArrayOutputStream();
        try (URLClassLoader loader = new URLClassLoader(new URL[] {room.toUri().toURL()})) {
            Method main = loader.loadClass("Example").getMethod("main", String[].class);
            System.setOut(new PrintStream(kept, true, StandardCharsets.UTF_8));
            main.invoke(null, (Object) new String[0]);
        } finally {
            System.setOut(screen);
        }
        return kept.toString(StandardCharsets.UTF_8).replace(System.lineSeparator(), "\n");
    }

    private static void clear(Path room) throws IOException {
        try (Stream<Path> all = Files.list(room)) {
            for (Path one : all.toList()) {
                Files.delete(one);
            }
        }
        Files.delete(room);
    }

    private static void calls(String page) {
        for (Method method : HoleDeck.class.getDeclaredMethods()) {
            if (Modifier.isPublic(method.getModifiers())) {
                check.due("the page names " + method.getName(), page.contains("`" + method.getName() + "`"), true);
            }
        }
    }

    private static void tests(String page) throws IOException {
        TreeSet<String> named = new TreeSet<>();
        Matcher rows = Pattern.compile("^\\| `(\\w+Test)` \\|", Pattern.MULTILINE).matcher(page);
        while (rows.find()) {
            named.add(rows.group(1));
        }
        TreeSet<String> there = new TreeSet<>();
        try (Stream<Path> all = Files.list(Path.of("src/test/java"))) {
            for (Path one : all.toList()) {
                String name = one.getFileName().toString();
                if (name.endsWith("Test.java")) {
                    there.add(name.substring(0, name.length() - ".java".length()));
                }
            }
        }
        check.due("tests named " + named + ", there " + there, named.equals(there), true);
    }

    private static void files(String page) {
        for (String name : List.of(".ci/run", "src/main/java/HoleDeck.java", "src/test/java")) {
            check.due("the page names " + name, page.contains(name), true);
            check.due(name + " is there", Files.exists(Path.of(name)), true);
        }
        check.due(".ci/run can be run", Files.isExecutable(Path.of(".ci/run")), true);
    }
}
