import java.io.IOException;
import java.lang.reflect.Method;
import java.lang.reflect.Modifier;
import java.nio.file.Files;
import java.nio.file.Path;
import java.util.regex.Matcher;
import java.util.regex.Pattern;

/** README.md says how to use the class: its calls must answer what it says, and none may be missing. */
public final class ReadmeTests {
    private static final Pattern CALL = Pattern.compile("x\\.(\\w+)\\(([^)]*)\\); *// (-?\\d+):");
    private static final int CALLS_SHOWN = 13;
    private static int wrong = 0;

    public static void main(String[] args) throws Exception {
        String readme = Files.readString(Path.of("README.md"));
        checkExample(readme);
        checkNames(readme);
        checkText(readme);
        checkFiles(readme);
        System.out.println(wrong == 0 ? "README.md is as the class" : wrong + " places of README.md are not as due");
        if (wrong != 0) System.exit(1);
    }

    private static void due(String what, long got, long want) {
        if (got == want) return;
        wrong++;
        System.out.println(what + ": " + got + ", due is " + want);
    }

    private static void checkExample(String readme) throws ReflectiveOperationException {
        RakeTables x = new RakeTables();
        Matcher call = CALL.matcher(readme);
        int shown = 0;
        while (call.find()) {
            shown++;
            due(call.group(), answer(x, call.group(1), call.group(2)), Long.parseLong(call.group(3)));
        }
        due("calls shown", shown, CALLS_SHOWN);
    }

    /** All calls of the example take ints alone. */
    private static long answer(RakeTables x, String name, String numbers) throws ReflectiveOperationException {
        String[] words = numbers.isEmpty() ? new String[0] : numbers.split(", ");
        Class<?>[] types = new Class<?>[words.length];
        Object[] values = new Object[words.length];
        for (int w = 0; w < words.length; w++) {
            types[w] = int.class;
            values[w] = Integer.valueOf(words[w]);
        }
        return ((Number) RakeTables.class.getMethod(name, types).invoke(x, values)).longValue();
    }

    private static void checkNames(String readme) {
        for (Method m : RakeTables.class.getDeclaredMethods()) {
            if (!Modifier.isPublic(m.getModifiers())) continue;
            due("`" + m.getName() + "` is named", readme.contains("`" + m.getName() + "`") ? 1 : 0, 1);
        }
    }

    /** The text that is shown for feed and read must be a set-up whose clauses are all done. */
    private static void checkText(String readme) {
        Matcher text = Pattern.compile("sign by sign: `([^`]*)`").matcher(readme);
        due("a text is shown", text.find() ? 1 : 0, 1);
        if (wrong != 0) return;
        RakeTables x = new RakeTables();
        for (char sign : text.group(1).toCharArray()) x.feed(sign);
        due("read()", x.read(), text.group(1).split(";").length);
    }

    private static void checkFiles(String readme) throws IOException {
        try (var files = Files.list(Path.of("src/test/java"))) {
            for (Path file : files.toList()) {
                String name = file.getFileName().toString().replace(".java", "");
                due("`" + name + "` is named", readme.contains("`" + name + "`") ? 1 : 0, 1);
            }
        }
    }
}
