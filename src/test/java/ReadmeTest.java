import java.io.IOException;
import java.lang.reflect.Method;
import java.lang.reflect.Modifier;
import java.nio.file.Files;
import java.nio.file.Path;
import java.util.regex.Matcher;
import java.util.regex.Pattern;

/** What README.md says is true: its examples answer as told, it names every call, and the tests it names are there. */
public final class ReadmeTest {
    private static final Pattern EXAMPLE = Pattern.compile("bog\\.(\\w+)\\((.*?)\\); *// (-?\\d+|NONE|true|false)\\b.*");

    private ReadmeTest() {
    }

    public static void main(String[] args) throws IOException, ReflectiveOperationException {
        String readme = Files.readString(Path.of("README.md"));
        examples(readme);
        calls(readme);
        tests(readme);
        Due.finish();
    }

    private static void examples(String readme) throws ReflectiveOperationException {
        Matcher block = Pattern.compile("```java\n(.*?)```", Pattern.DOTALL).matcher(readme);
        int blocks = 0;
        while (block.find()) {
            String[] lines = block.group(1).split("\n");
            Due.due("an example begins with a new object", lines[0].equals("PeatBog bog = new PeatBog();"), true);
            PeatBog bog = new PeatBog();
            for (int i = 1; i < lines.length; i++) {
                example(bog, lines[i]);
            }
            blocks++;
        }
        Due.due("examples in README.md", blocks, 2);
    }

    private static void example(PeatBog bog, String line) throws ReflectiveOperationException {
        Matcher m = EXAMPLE.matcher(line);
        if (!m.matches()) {
            Due.due("a call with its answer: " + line, false, true);
            return;
        }
        String[] words = m.group(2).isEmpty() ? new String[0] : m.group(2).split(", ");
        Object[] args = new Object[words.length];
        for (int i = 0; i < words.length; i++) {
            args[i] = words[i].equals("PeatBog.NONE") ? PeatBog.NONE : Integer.decode(words[i]);
        }
        String answer = "" + callOf(m.group(1), words.length).invoke(bog, args);
        Due.due(line + ": " + answer, answer.equals(m.group(3).equals("NONE") ? "-1" : m.group(3)), true);
    }

    private static Method callOf(String name, int parameters) throws NoSuchMethodException {
        Class<?>[] types = new Class<?>[parameters];
        java.util.Arrays.fill(types, int.class);
        return PeatBog.class.getMethod(name, types);
    }

    private static void calls(String readme) {
        for (Method m : PeatBog.class.getDeclaredMethods()) {
            if (Modifier.isPublic(m.getModifiers())) {
                String row = "\\| `" + m.getName() + "\\(([^)]*)\\)` \\|";
                Matcher found = Pattern.compile(row).matcher(readme);
                boolean is = found.find();
                Due.due("a row for " + m.getName(), is, true);
                int told = !is ? -1 : found.group(1).isEmpty() ? 0 : found.group(1).split(", ").length;
                Due.due("parameters in the row of " + m.getName(), told, m.getParameterCount());
            }
        }
    }

    private static void tests(String readme) {
        Matcher name = Pattern.compile("\\b[A-Z]\\w*Test\\b").matcher(readme);
        while (name.find()) {
            Due.due("there is a " + name.group(), Files.exists(Path.of("src/test/java", name.group() + ".java")), true);
        }
    }
}
