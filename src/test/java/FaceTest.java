import java.io.IOException;
import java.lang.reflect.Constructor;
import java.lang.reflect.Field;
import java.lang.reflect.Method;
import java.lang.reflect.Modifier;
import java.nio.file.Files;
import java.nio.file.Path;
import java.util.ArrayList;
import java.util.Arrays;
import java.util.List;
import java.util.TreeSet;
import java.util.regex.Matcher;
import java.util.regex.Pattern;

/** The public face, its constants, and what of the rules in LANGUAGE.md a test can see. */
public final class FaceTest {
    private static final List<String> FACE = Arrays.asList("clearText()", "correction(int,int,int)", "count(int)",
            "fault(int)", "letterOf(int,int,int)", "messageOf(int,int)", "mute(int)", "pause()", "play()",
            "read(int)", "ring(int)", "set(int,int)", "shift(int,int)", "strike(int)", "strokeOf(int,int)",
            "swap(int,int)", "tableOf(int)", "type(int)", "undo()", "vote(int,int)");
    private static final List<String> RULED_OUT = Arrays.asList("throw", "throws", "try", "catch", "finally",
            "synchronized", "assert", "import", "package", "Exception", "Error", "System.exit", "System.out", "java",
            "->", "::");
    private static final List<String> MATH = Arrays.asList("min", "max", "abs", "floorDiv", "floorMod");

    public static void main(String[] args) throws IOException {
        Due due = new Due();
        due.is("INVALID_ARGUMENT", BellWords.INVALID_ARGUMENT, -1000001);
        due.is("NOT_POSSIBLE", BellWords.NOT_POSSIBLE, -1000002);
        due.is("LIMIT_REACHED", BellWords.LIMIT_REACHED, -1000003);
        due.is("NOT_FOUND", BellWords.NOT_FOUND, -1000004);
        due.is("final and public", BellWords.class.getModifiers() & (Modifier.FINAL | Modifier.PUBLIC),
                Modifier.FINAL | Modifier.PUBLIC);
        methods(due);
        members(due);
        source(due);
        sizes(due);
        due.end();
    }

    private static void methods(Due due) {
        TreeSet<String> found = new TreeSet<>();
        TreeSet<String> names = new TreeSet<>();
        for (Method method : BellWords.class.getDeclaredMethods()) {
            if (!Modifier.isPrivate(method.getModifiers())) {
                due.is(method + " is public", Modifier.isPublic(method.getModifiers()) ? 1 : 0, 1);
                due.is(method + " returns int", method.getReturnType() == int.class ? 1 : 0, 1);
                String parameters = Arrays.toString(method.getParameterTypes());
                found.add(method.getName() + "(" + parameters.replaceAll("[\\[\\] ]", "") + ")");
                names.add(method.getName());
            }
        }
        due.is("the methods are those of the document", found.equals(new TreeSet<>(FACE)) ? 1 : 0, 1);
        for (Method method : BellWords.class.getDeclaredMethods()) {
            boolean bearsName = Modifier.isPrivate(method.getModifiers()) && names.contains(method.getName());
            due.is(method + " is private with a name of the face", bearsName ? 1 : 0, 0);
        }
        for (Class<?> inside : BellWords.class.getDeclaredClasses()) {
            for (Method method : inside.getDeclaredMethods()) {
                due.is(method + " has no name of the face", names.contains(method.getName()) ? 1 : 0, 0);
            }
        }
    }

    private static void members(Due due) {
        Constructor<?>[] constructors = BellWords.class.getDeclaredConstructors();
        due.is("constructors", constructors.length, 1);
        due.is("its parameters", constructors[0].getParameterCount(), 0);
        int open = 0;
        for (Field field : BellWords.class.getDeclaredFields()) {
            open += Modifier.isPrivate(field.getModifiers()) ? 0 : 1;
            boolean changeable = Modifier.isStatic(field.getModifiers()) && !Modifier.isFinal(field.getModifiers());
            due.is(field + " is static and not final", changeable ? 1 : 0, 0);
        }
        due.is("fields that are not private", open, 4);
        for (Class<?> inside : BellWords.class.getDeclaredClasses()) {
            due.is(inside + " is static", Modifier.isStatic(inside.getModifiers()) ? 1 : 0, 1);
            due.is(inside + " is not public", Modifier.isPublic(inside.getModifiers()) ? 1 : 0, 0);
        }
        due.is("at most twelve classes", BellWords.class.getDeclaredClasses().length + 1 <= 12 ? 1 : 0, 1);
    }

    /** The class without what its comments say. */
    private static String code() throws IOException {
        String source = Files.readString(Path.of("src/main/java/BellWords.java"));
        return source.replaceAll("(?s)/\\*.*?\\*/", " ").replaceAll("//[^\n]*", " ");
    }

    private static void source(Due due) throws IOException {
        String code = code();
        for (String word : RULED_OUT) {
            boolean isWord = Character.isLetter(word.charAt(0));
            String pattern = ".*" + (isWord ? "\\b" + word.replace(".", "\\.") + "\\b" : word) + ".*";
            due.is("the source has " + word, code.replace('\n', ' ').matches(pattern) ? 1 : 0, 0);
        }
        // As nothing is imported, a class of the library could only stand there by its simple name.
        TreeSet<String> classes = new TreeSet<>(Arrays.asList("BellWords", "Math"));
        for (Class<?> inside : BellWords.class.getDeclaredClasses()) {
            classes.add(inside.getSimpleName());
        }
        Matcher name = Pattern.compile("\\b[A-Z]\\w*[a-z]\\w*").matcher(code);
        while (name.find()) {
            due.is("the source names " + name.group(), classes.contains(name.group()) ? 1 : 0, 1);
        }
        Matcher function = Pattern.compile("\\bMath\\.(\\w+)").matcher(code);
        while (function.find()) {
            due.is("Math has " + function.group(1), MATH.contains(function.group(1)) ? 1 : 0, 1);
        }
    }

    private static void sizes(Due due) throws IOException {
        List<Class<?>> all = new ArrayList<>(Arrays.asList(BellWords.class.getDeclaredClasses()));
        all.add(BellWords.class);
        for (Class<?> each : all) {
            int fields = 0;
            for (Field field : each.getDeclaredFields()) {
                fields += Modifier.isStatic(field.getModifiers()) ? 0 : 1;
            }
            due.is(each + " has at most twenty fields", fields <= 20 ? 1 : 0, 1);
            for (Method method : each.getDeclaredMethods()) {
                due.is(method + " has at most seven parameters", method.getParameterCount() <= 7 ? 1 : 0, 1);
            }
        }
        Matcher method = Pattern.compile("(?ms)^( {4}| {8})(\\w[^\n;=]*\\) \\{)$.*?^\\1\\}$").matcher(code());
        while (method.find()) {
            boolean isShort = method.group().split("\n").length <= 60;
            due.is(method.group(2) + " has at most sixty lines", isShort ? 1 : 0, 1);
        }
    }
}
