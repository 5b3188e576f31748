import java.io.IOException;
import java.lang.reflect.Executable;
import java.lang.reflect.Field;
import java.lang.reflect.Method;
import java.lang.reflect.Modifier;
import java.nio.charset.StandardCharsets;
import java.nio.file.Files;
import java.nio.file.Path;
import java.util.ArrayList;
import java.util.Arrays;
import java.util.HashSet;
import java.util.List;
import java.util.Set;
import java.util.TreeSet;
import java.util.regex.Matcher;
import java.util.regex.Pattern;

/** The face of the document, and those rules of LANGUAGE.md that the class and its text can show. Run it in the root. */
public final class LanguageTest {
    private static final Path SOURCE = Path.of("src/main/java/RosettePlate.java");
    private static final String INDEX = " IndexOutOfBoundsException";
    private static final String ARGUMENT = " IllegalArgumentException";
    private static final String STATE = " IllegalStateException";
    private static final List<String> FACE = List.of(
        "int append(int)" + ARGUMENT + STATE, "int clearText()", "int errorPosition()", "int load()" + STATE,
        "int about(int)" + ARGUMENT, "int layer(int,int)" + INDEX + ARGUMENT, "int pen(int,long)" + INDEX + ARGUMENT,
        "int comes(int,int,int)" + INDEX + ARGUMENT, "int at(int)" + ARGUMENT, "int blank()", "long together()",
        "int order(int)" + ARGUMENT, "int sighting(int,int)" + INDEX + ARGUMENT, "int common(int,int)" + INDEX,
        "int meet(int,int)" + INDEX, "int turned(int,int)" + INDEX, "int setRing(int)" + ARGUMENT,
        "int addLayer(int,int,int,int)" + ARGUMENT + STATE, "int change(int,int,int)" + INDEX + ARGUMENT,
        "int remove(int)" + INDEX, "int see(int,int)" + ARGUMENT, "int forget()", "int undo()" + STATE,
        "int bestStart(int,int)" + INDEX + ARGUMENT, "int wheels(int,int,int,int)" + ARGUMENT,
        "int wheelFor(int)" + ARGUMENT, "int runScript(int,long)" + ARGUMENT, "int simulate(long,int)" + ARGUMENT,
        "int save(int)" + INDEX, "int restore(int)" + INDEX + STATE);
    private static final String[] FORBIDDEN = {"\\bimport\\b", "\\bpackage\\b", "->", "::", "\\bfinally\\b",
        "\\btry\\b", "\\bcatch\\b", "\\bsynchronized\\b", "\\bassert\\b", "\\bprotected\\b", "\\bstatic \\{",
        "\\bjava\\.", "\\bObject\\b", "\\bequals\\b", "\\bhashCode\\b", "\\btoString\\b", "\\w+Exact\\b", "\"\\s*\\+",
        "\\+\\s*\"", "\\bvar\\b", "\\bwhile\\b", "\\bThread\\b", "\\bSystem\\b", "[^\\x00-\\x7f]"};

    private static final Checks CHECKS = new Checks();

    public static void main(String[] args) throws IOException {
        face();
        members();
        text(Files.readString(SOURCE, StandardCharsets.UTF_8));
        CHECKS.close();
    }

    private static void face() {
        Set<String> found = new TreeSet<>();
        for (Method method : RosettePlate.class.getDeclaredMethods()) {
            if (!Modifier.isPrivate(method.getModifiers())) {
                CHECKS.holds(method + " is public", method.getModifiers() == Modifier.PUBLIC);
                found.add(signature(method));
            }
        }
        CHECKS.same("the face", found, new TreeSet<>(FACE));
        CHECKS.holds("the class is public and final",
            RosettePlate.class.getModifiers() == (Modifier.PUBLIC | Modifier.FINAL));
        CHECKS.due("constructors", RosettePlate.class.getDeclaredConstructors().length, 1);
        CHECKS.due("public constructors without arguments", Arrays.stream(RosettePlate.class.getConstructors())
            .filter(maker -> maker.getParameterCount() == 0).count(), 1);
        List<String> open = new ArrayList<>();
        for (Field field : RosettePlate.class.getDeclaredFields()) {
            if (!Modifier.isPrivate(field.getModifiers())) {
                open.add(field.toString());
            }
        }
        CHECKS.same("the open fields", open, List.of("public static final int RosettePlate.NONE"));
    }

    private static String signature(Method method) {
        List<String> types = new ArrayList<>();
        for (Class<?> type : method.getParameterTypes()) {
            types.add(type.getName());
        }
        StringBuilder face = new StringBuilder(method.getReturnType().getName());
        face.append(' ').append(method.getName()).append('(').append(String.join(",", types)).append(')');
        for (Class<?> thrown : method.getExceptionTypes()) {
            face.append(' ').append(thrown.getSimpleName());
        }
        return face.toString();
    }

    private static void members() {
        Class<?>[] inside = RosettePlate.class.getDeclaredClasses();
        CHECKS.holds("at most twelve classes", inside.length < 12);
        List<Class<?>> all = new ArrayList<>(List.of(inside));
        all.add(RosettePlate.class);
        for (Class<?> type : all) {
            int own = 0;
            for (Field field : type.getDeclaredFields()) {
                boolean isStatic = Modifier.isStatic(field.getModifiers());
                CHECKS.holds(field + " is final if it is static",
                    !isStatic || Modifier.isFinal(field.getModifiers()));
                own += isStatic ? 0 : 1;
            }
            CHECKS.holds(type + " has at most twenty fields", own <= 20);
            List<Executable> code = new ArrayList<>(List.of(type.getDeclaredMethods()));
            code.addAll(List.of(type.getDeclaredConstructors()));
            for (Executable each : code) {
                CHECKS.holds(each + " takes at most seven parameters", each.getParameterCount() <= 7);
            }
            CHECKS.holds(type + " is not open", type == RosettePlate.class || type.getModifiers()
                == (Modifier.PRIVATE | Modifier.STATIC | Modifier.FINAL));
        }
        namesAreApart(all);
    }

    private static void namesAreApart(List<Class<?>> all) {
        Set<String> open = new HashSet<>();
        for (Method method : RosettePlate.class.getMethods()) {
            open.add(method.getName());
        }
        for (Class<?> type : all) {
            for (Method method : type.getDeclaredMethods()) {
                boolean isFace = type == RosettePlate.class && Modifier.isPublic(method.getModifiers());
                CHECKS.holds(method + " has a name of its own", isFace || !open.contains(method.getName()));
            }
        }
    }

    private static void text(String source) {
        String code = source.replaceAll("(?s)/\\*.*?\\*/", "").replaceAll("//[^\n]*", "");
        for (String word : FORBIDDEN) {
            CHECKS.holds("no " + word, !Pattern.compile(word).matcher(code).find());
        }
        Matcher thrown = Pattern.compile("throw\\b[^;]*;").matcher(code);
        while (thrown.find()) {
            CHECKS.holds(thrown.group(), thrown.group().matches("throw new "
                + "(IllegalArgument|IllegalState|IndexOutOfBounds)Exception\\(\"[^\"]*\"\\);"));
        }
        CHECKS.holds("the quotient and the remainder alone divide by what may change", divisorsAreLookedAt(code));
        int start = 0;
        String[] lines = source.split("\n");
        for (int i = 0; i < lines.length; i++) {
            if (lines[i].matches("    (    )?\\S.*[({]$")) {
                start = i;
            } else if (lines[i].matches("    (    )?}")) {
                CHECKS.holds("the method that ends at line " + (i + 1) + " is short", i - start <= 60);
            }
        }
    }

    /** A divisor is a number, a constant, or stands in a line that tests it. */
    private static boolean divisorsAreLookedAt(String code) {
        for (String line : code.split("\n")) {
            Matcher divided = Pattern.compile("[/%]=?\\s*([\\w.]+)").matcher(line);
            while (divided.find()) {
                String divisor = divided.group(1);
                boolean fixed = divisor.matches("\\d+|[A-Z_.]+|Command\\.GROUP");
                if (!fixed && !line.contains(divisor + " > 0") && !code.contains(divisor + " > 0; round++")) {
                    System.out.println("  divides: " + line.trim());
                    return false;
                }
            }
        }
        return true;
    }
}
