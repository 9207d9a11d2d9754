import java.io.IOException;
import java.lang.reflect.Method;
import java.lang.reflect.Modifier;
import java.nio.file.Files;
import java.nio.file.Path;
import java.util.TreeSet;
import java.util.regex.Matcher;
import java.util.regex.Pattern;

/** README.md's example does what it says, and its tables name every call and every test. */
final class ReadmeTest {
    public static void main(String[] args) throws IOException {
        String readme = Files.readString(Path.of("README.md"));
        example(readme);
        calls(readme);
        tests(readme);
        Check.end();
    }

    private static void example(String readme) {
        for (String line : new String[] {
            "GameCore core = new GameCore();",
            "core.feed(0xC000, 0x3E2A0605, 0x80100000, 0, 0);",
            "core.set(5, 0xC000);",
            "int steps = core.run(100);",
            "int a = core.reg(0) >> 8;",
            "int cycles = core.mcycles();"
        }) {
            Check.due("README.md has '" + line + "'", readme.contains("\n" + line), true);
        }
        GameCore core = new GameCore();
        core.feed(0xC000, 0x3E2A0605, 0x80100000, 0, 0);
        core.set(5, 0xC000);
        int steps = core.run(100);
        int a = core.reg(0) >> 8;
        int cycles = core.mcycles();
        Check.due("the example's steps", steps, 3);
        Check.due("the example's A", a, 0x2F);
        Check.due("the example's M-cycles", cycles, 5);
    }

    private static void calls(String readme) {
        for (Method method : GameCore.class.getDeclaredMethods()) {
            if (Modifier.isPublic(method.getModifiers())) {
                Check.due("README.md tells " + method.getName(), readme.contains("`" + method.getName() + "("), true);
            }
        }
    }

    private static void tests(String readme) throws IOException {
        TreeSet<String> told = new TreeSet<>();
        Matcher row = Pattern.compile("(?m)^\\| `(\\w+Test)` \\|").matcher(readme);
        while (row.find()) {
            told.add(row.group(1));
        }
        TreeSet<String> there = new TreeSet<>();
        try (var files = Files.list(Path.of("src/test/java"))) {
            files.map(file -> file.getFileName().toString())
                .filter(name -> name.endsWith("Test.java"))
                .forEach(name -> there.add(name.replace(".java", "")));
        }
        Check.due("tests told " + told + ", there " + there, told.equals(there), true);
    }
}
