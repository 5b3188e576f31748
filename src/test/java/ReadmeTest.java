import java.io.ByteArrayOutputStream;
import java.io.IOException;
import java.io.PrintStream;
import java.lang.reflect.Method;
import java.lang.reflect.Modifier;
import java.net.URL;
import java.net.URLClassLoader;
import java.nio.file.Files;
import java.nio.file.Path;
import java.util.ArrayList;
import java.util.Comparator;
import java.util.List;
import java.util.regex.Matcher;
import java.util.regex.Pattern;
import java.util.stream.Stream;
import javax.tools.JavaCompiler;
import javax.tools.ToolProvider;

/** What README.md says is so: its programs print what they announce, its table has each call. Run it in the root. */
public final class ReadmeTest {
    private static final Pattern PROGRAM = Pattern.compile("```java\n(.*?public class (\\w+) .*?)```", Pattern.DOTALL);
    private static final Pattern PRINTED = Pattern.compile("System\\.out\\.println\\(.*\\); *// ([^:\n]+)");
    private static final Pattern NAMED_TEST = Pattern.compile("`(\\w*Test)`");
    private static final int EXAMPLES = 2;

    private static final Checks CHECKS = new Checks();

    public static void main(String[] args) throws Exception {
        String page = Files.readString(Path.of("README.md"));
        Path room = Files.createTempDirectory("readme");
        try {
            programs(page, room);
        } finally {
            clear(room);
        }
        table(page);
        tests(page);
        CHECKS.close();
    }

    private static void programs(String page, Path room) throws Exception {
        int found = 0;
        Matcher program = PROGRAM.matcher(page);
        while (program.find()) {
            found++;
            String name = program.group(2);
            Path file = Files.writeString(room.resolve(name + ".java"), program.group(1));
            JavaCompiler compiler = ToolProvider.getSystemJavaCompiler();
            int ended = compiler.run(null, null, null, "-Xlint:all", "-Werror", "-d", room.toString(),
                "src/main/java/RosettePlate.java", file.toString());
            CHECKS.due("the compiler, for the program " + name, ended, 0);
            if (ended == 0) {
                CHECKS.same("what the program " + name + " prints", printed(name, room), announced(program.group(1)));
            }
        }
        CHECKS.due("programs on the page", found, EXAMPLES);
    }

    /** What stands behind the // of each line that prints, up to a colon. */
    private static List<String> announced(String program) {
        List<String> lines = new ArrayList<>();
        Matcher printed = PRINTED.matcher(program);
        while (printed.find()) {
            lines.add(printed.group(1).trim());
        }
        CHECKS.due("lines that print without a word on what", program.split("println", -1).length - 1, lines.size());
        return lines;
    }

    private static List<String> printed(String name, Path room) throws Exception {
        ByteArrayOutputStream bytes = new ByteArrayOutputStream();
        PrintStream before = System.out;
        // The platform's loader as the parent: the class that is run is the one that was compiled with the program.
        try (URLClassLoader loader = new URLClassLoader(new URL[] {room.toUri().toURL()},
                ClassLoader.getPlatformClassLoader())) {
            System.setOut(new PrintStream(bytes, true));
            loader.loadClass(name).getMethod("main", String[].class).invoke(null, (Object) new String[0]);
        } finally {
            System.setOut(before);
        }
        return bytes.toString().lines().toList();
    }

    private static void table(String page) {
        int calls = 0;
        for (Method method : RosettePlate.class.getDeclaredMethods()) {
            if (Modifier.isPublic(method.getModifiers())) {
                calls++;
                Matcher row = Pattern.compile("\n\\| `" + method.getName() + "\\(([^)]*)\\)` \\| ").matcher(page);
                CHECKS.holds("a row for " + method.getName(), row.find());
                int named = row.reset().find() && !row.group(1).isEmpty() ? row.group(1).split(", ").length : 0;
                CHECKS.due("arguments of " + method.getName() + " in its row", named, method.getParameterCount());
            }
        }
        CHECKS.due("rows of the table", page.split("\n\\| `", -1).length - 1, calls);
        CHECKS.holds("the number of NONE", page.contains("`RosettePlate.NONE`, " + RosettePlate.NONE + ","));
    }

    private static void tests(String page) {
        Matcher test = NAMED_TEST.matcher(page);
        while (test.find()) {
            Path file = Path.of("src/test/java", test.group(1) + ".java");
            CHECKS.holds("the test " + test.group(1), Files.exists(file));
        }
    }

    private static void clear(Path room) throws IOException {
        List<Path> all;
        try (Stream<Path> files = Files.walk(room)) {
            all = files.sorted(Comparator.reverseOrder()).toList();
        }
        for (Path file : all) {
            Files.delete(file);
        }
    }
}
