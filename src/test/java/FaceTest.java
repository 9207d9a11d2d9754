import java.io.IOException;
import java.lang.reflect.Constructor;
import java.lang.reflect.Field;
import java.lang.reflect.Method;
import java.lang.reflect.Modifier;
import java.nio.file.Files;
import java.nio.file.Path;
import java.util.Arrays;
import java.util.TreeSet;
import java.util.regex.Pattern;

/** The public face as the document has it, and the rules of LANGUAGE.md that a look can tell. */
final class FaceTest {
    private static final String[] FACE = {
        "boolean feed(int, int, int, int, int)", "boolean poke(int, int)", "boolean request(int)",
        "boolean set(int, int)", "int look(int)", "int mcycles()", "int peek(int)", "int reg(int)",
        "int run(int)", "int step()"
    };
    private static final String[] FORBIDDEN = {
        "throw", "throws", "try", "catch", "synchronized", "assert", "import", "package", "protected", "->", "::"
    };

    public static void main(String[] args) throws IOException {
        methods();
        members();
        words();
        Check.end();
    }

    private static void methods() {
        TreeSet<String> open = new TreeSet<>();
        TreeSet<String> openNames = new TreeSet<>();
        for (Method method : GameCore.class.getDeclaredMethods()) {
            if (Modifier.isPublic(method.getModifiers())) {
                String parameters = Arrays.toString(method.getParameterTypes());
                open.add(method.getReturnType() + " " + method.getName()
                    + "(" + parameters.substring(1, parameters.length() - 1) + ")");
                openNames.add(method.getName());
            }
        }
        for (Method method : GameCore.class.getDeclaredMethods()) {
            if (!Modifier.isPublic(method.getModifiers())) {
                Check.due("private " + method, Modifier.isPrivate(method.getModifiers()), true);
                Check.due("a name of its own for " + method, openNames.contains(method.getName()), false);
            }
            Check.due("parameters of " + method, method.getParameterCount() <= 7, true);
        }
        Check.due("methods " + open, open.equals(new TreeSet<>(Arrays.asList(FACE))), true);
    }

    private static void members() {
        Check.due("final class", Modifier.isFinal(GameCore.class.getModifiers()), true);
        Check.due("public class", Modifier.isPublic(GameCore.class.getModifiers()), true);
        Constructor<?>[] constructors = GameCore.class.getDeclaredConstructors();
        Check.due("constructors", constructors.length, 1);
        Check.due("public constructor", Modifier.isPublic(constructors[0].getModifiers()), true);
        Check.due("constructor's parameters", constructors[0].getParameterCount(), 0);
        Check.due("NONE", GameCore.NONE, -1);
        for (Field field : GameCore.class.getDeclaredFields()) {
            boolean open = field.getName().equals("NONE");
            Check.due("public " + field, Modifier.isPublic(field.getModifiers()), open);
            Check.due("private " + field, Modifier.isPrivate(field.getModifiers()), !open);
        }
        for (Class<?> inner : GameCore.class.getDeclaredClasses()) {
            Check.due("static " + inner, Modifier.isStatic(inner.getModifiers()), true);
            Check.due("not public " + inner, Modifier.isPublic(inner.getModifiers()), false);
            staticFieldsAreFinal(inner);
        }
        staticFieldsAreFinal(GameCore.class);
    }

    private static void staticFieldsAreFinal(Class<?> owner) {
        for (Field field : owner.getDeclaredFields()) {
            int modifiers = field.getModifiers();
            Check.due("final if static: " + field, !Modifier.isStatic(modifiers) || Modifier.isFinal(modifiers), true);
        }
    }

    private static void words() throws IOException {
        String text = Files.readString(Path.of("src/main/java/GameCore.java"));
        String code = text.replaceAll("(?s)/\\*.*?\\*/", "").replaceAll("//.*", "");
        for (String word : FORBIDDEN) {
            String pattern = Character.isLetter(word.charAt(0)) ? "\\b" + word + "\\b" : Pattern.quote(word);
            Check.due("'" + word + "' in the class", Pattern.compile(pattern).matcher(code).find(), false);
        }
    }
}
