import java.io.IOException;
import java.lang.reflect.Constructor;
import java.lang.reflect.Field;
import java.lang.reflect.Method;
import java.lang.reflect.Modifier;
import java.nio.file.Files;
import java.nio.file.Path;
import java.util.Arrays;
import java.util.List;
import java.util.TreeSet;
import java.util.regex.Matcher;
import java.util.regex.Pattern;

/** The public face as the document has it, and the rules of LANGUAGE.md that a look can tell. */
final class FaceTest {
    private static final String[] FACE = {
        "boolean feed(int, int, int, int, int)", "boolean poke(int, int)", "boolean request(int)",
        "boolean set(int, int)", "int look(int)", "int mcycles()", "int peek(int)", "int reg(int)",
        "int run(int)", "int step()"
    };
    private static final String[] FORBIDDEN = {
        "throw", "throws", "try", "catch", "synchronized", "assert", "import", "package", "protected", "->", "::"
    };

    private static final List<Class<?>> STATIC_TYPES = List.of(
        int.class, long.class, boolean.class, char.class, String.class,
        int[].class, long[].class, char[].class, byte[].class);
    private static final List<String> LIBRARY = List.of("Math");
    private static final int MOST_CLASSES = 12;
    private static final int MOST_FIELDS = 20;
    private static final int MOST_LINES = 60;

    public static void main(String[] args) throws IOException {
        methods();
        members();
        sizes();
        String text = Files.readString(Path.of("src/main/java/GameCore.java"));
        String code = text.replaceAll("(?s)/\\*.*?\\*/", "").replaceAll("//.*", "");
        words(code);
        library(code);
        makesNothingBesideConstructors(code);
        shortMethods(code);
        Check.end();
    }

    private static void methods() {
        TreeSet<String> open = new TreeSet<>();
        TreeSet<String> openNames = new TreeSet<>();
        for (Method method : GameCore.class.getDeclaredMethods()) {
            if (Modifier.isPublic(method.getModifiers())) {
                String parameters = Arrays.toString(method.getParameterTypes());
                open.add(method.getReturnType() + " " + method.getName()
                    + "(" + parameters.substring(1, parameters.length() - 1) + ")");
                openNames.add(method.getName());
            }
        }
        for (Method method : GameCore.class.getDeclaredMethods()) {
            if (!Modifier.isPublic(method.getModifiers())) {
                Check.due("private " + method, Modifier.isPrivate(method.getModifiers()), true);
                Check.due("a name of its own for " + method, openNames.contains(method.getName()), false);
            }
            Check.due("parameters of " + method, method.getParameterCount() <= 7, true);
        }
        Check.due("methods " + open, open.equals(new TreeSet<>(Arrays.asList(FACE))), true);
    }

    private static void members() {
        Check.due("final class", Modifier.isFinal(GameCore.class.getModifiers()), true);
        Check.due("public class", Modifier.isPublic(GameCore.class.getModifiers()), true);
        Constructor<?>[] constructors = GameCore.class.getDeclaredConstructors();
        Check.due("constructors", constructors.length, 1);
        Check.due("public constructor", Modifier.isPublic(constructors[0].getModifiers()), true);
        Check.due("constructor's parameters", constructors[0].getParameterCount(), 0);
        Check.due("NONE", GameCore.NONE, -1);
        for (Field field : GameCore.class.getDeclaredFields()) {
            boolean open = field.getName().equals("NONE");
            Check.due("public " + field, Modifier.isPublic(field.getModifiers()), open);
            Check.due("private " + field, Modifier.isPrivate(field.getModifiers()), !open);
        }
        for (Class<?> inner : GameCore.class.getDeclaredClasses()) {
            Check.due("static " + inner, Modifier.isStatic(inner.getModifiers()), true);
            Check.due("not public " + inner, Modifier.isPublic(inner.getModifiers()), false);
            staticFieldsAreFinal(inner);
        }
        staticFieldsAreFinal(GameCore.class);
    }

    private static void staticFieldsAreFinal(Class<?> owner) {
        for (Field field : owner.getDeclaredFields()) {
            int modifiers = field.getModifiers();
            Check.due("final if static: " + field, !Modifier.isStatic(modifiers) || Modifier.isFinal(modifiers), true);
            boolean mayBe = !Modifier.isStatic(modifiers) || STATIC_TYPES.contains(field.getType());
            Check.due("type if static: " + field, mayBe, true);
        }
    }

    private static void sizes() {
        Class<?>[] inner = GameCore.class.getDeclaredClasses();
        Check.due("classes", inner.length + 1 <= MOST_CLASSES, true);
        Check.due("fields of " + GameCore.class, fieldsOf(GameCore.class) <= MOST_FIELDS, true);
        for (Class<?> owner : inner) {
            Check.due("fields of " + owner, fieldsOf(owner) <= MOST_FIELDS, true);
        }
    }

    private static int fieldsOf(Class<?> owner) {
        int count = 0;
        for (Field field : owner.getDeclaredFields()) {
            count += Modifier.isStatic(field.getModifiers()) ? 0 : 1;
        }
        return count;
    }

    private static void words(String code) {
        for (String word : FORBIDDEN) {
            String pattern = Character.isLetter(word.charAt(0)) ? "\\b" + word + "\\b" : Pattern.quote(word);
            Check.due("'" + word + "' in the class", Pattern.compile(pattern).matcher(code).find(), false);
        }
    }

    /** Names with a small letter in them that are no class of GameCore's own. */
    private static void library(String code) {
        TreeSet<String> own = new TreeSet<>(LIBRARY);
        own.add("GameCore");
        for (Class<?> inner : GameCore.class.getDeclaredClasses()) {
            own.add(inner.getSimpleName());
        }
        Matcher name = Pattern.compile("\\b[A-Z]\\w*[a-z]\\w*").matcher(code);
        while (name.find()) {
            Check.due("'" + name.group() + "' may be used", own.contains(name.group()), true);
        }
    }

    /** All calls of a run share one room, so no call but the constructor makes anything. */
    private static void makesNothingBesideConstructors(String code) {
        TreeSet<String> made = new TreeSet<>();
        Matcher making = Pattern.compile("\\bnew\\s+\\w+").matcher(code);
        int count = 0;
        while (making.find()) {
            made.add(making.group());
            count++;
        }
        TreeSet<String> due = new TreeSet<>(List.of("new Memory", "new Registers", "new Sums", "new byte", "new int"));
        Check.due("what is made: " + made, made.equals(due), true);
        Check.due("each in one place", count, due.size());
    }

    /** A method's first and last lines stand at the same depth, four or eight blanks in. */
    private static void shortMethods(String code) {
        Pattern method = Pattern.compile("(?m)^( {4}| {8})(?:\\w+(?:\\[\\])? )*(\\w+)\\([^;{]*\\) \\{$(?s:.*?)^\\1\\}$");
        Matcher found = method.matcher(code);
        int count = 0;
        while (found.find()) {
            count++;
            long lines = found.group().lines().count();
            Check.due("lines of " + found.group(2) + ", " + lines, lines <= MOST_LINES, true);
        }
        Check.due("methods found", count > 60, true);
    }
}
