import java.lang.reflect.Method;
import java.lang.reflect.Modifier;
import java.nio.file.Files;
import java.nio.file.Path;
import java.util.regex.Matcher;
import java.util.regex.Pattern;

/** What README.md tells of the class: its example answers so, and its table names every call. */
public final class ReadmeTest {
    private ReadmeTest() {
    }

    public static void main(String[] args) throws Exception {
        String readme = Files.readString(Path.of("README.md"));
        example(readme);
        table(readme);
        Checks.end("ReadmeTest");
    }

    private static void example(String readme) throws Exception {
        Matcher m = Pattern.compile("(?m)^town\\.(\\w+)\\(([^)]*)\\); +// (true|false|-?\\d+)").matcher(readme);
        EggTown town = new EggTown();
        int lines = 0;
        while (m.find()) {
            Object answer = answer(town, m.group(1), m.group(2));
            Checks.due(m.group() + " answered " + answer, String.valueOf(answer).equals(m.group(3)), true);
            lines++;
        }
        Checks.due("lines of the example", lines, readme.split("\ntown\\.").length - 1);
        Checks.due("the example has lines", lines > 10, true);
    }

    private static Object answer(EggTown town, String name, String given) throws Exception {
        String[] numbers = given.isEmpty() ? new String[0] : given.split(", *");
        Class<?>[] types = new Class<?>[numbers.length];
        Object[] values = new Object[numbers.length];
        for (int k = 0; k < numbers.length; k++) {
            types[k] = int.class;
            values[k] = Integer.decode(numbers[k]);
        }
        return EggTown.class.getMethod(name, types).invoke(town, values);
    }

    private static void table(String readme) {
        StringBuilder rows = new StringBuilder();
        for (String line : readme.split("\n")) {
            rows.append(line.startsWith("|") ? line : "");
        }
        for (Method method : EggTown.class.getDeclaredMethods()) {
            if (Modifier.isPublic(method.getModifiers())) {
                Checks.due("the table names " + method.getName(), rows.indexOf("`" + method.getName() + "`") >= 0, true);
            }
        }
    }
}
