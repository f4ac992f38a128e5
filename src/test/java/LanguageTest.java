import java.lang.reflect.Constructor;
import java.lang.reflect.Field;
import java.lang.reflect.Method;
import java.lang.reflect.Modifier;
import java.nio.charset.StandardCharsets;
import java.nio.file.Files;
import java.nio.file.Path;
import java.util.Set;
import java.util.TreeSet;
import java.util.regex.Matcher;
import java.util.regex.Pattern;

/** The face of the document, and those rules of LANGUAGE.md that can be seen in the text or by reflection. */
public final class LanguageTest {
    private LanguageTest() {
    }

    public static void main(String[] args) throws Exception {
        String source = read("src/main/java/EggTown.java");
        String code = source.replaceAll("/\\*(?s:.*?)\\*/", "").replaceAll("//.*", "")
            .replaceAll("\"[^\"]*\"", "\"\"").replaceAll("'[^']'", "' '");
        face();
        words(code);
        methods(code);
        classes();
        Checks.end("LanguageTest");
    }

    private static String read(String path) throws Exception {
        return new String(Files.readAllBytes(Path.of(path)), StandardCharsets.ISO_8859_1);
    }

    private static void face() throws Exception {
        String doc = read("../shared/DOC.md");
        String block = doc.substring(doc.indexOf("```java"), doc.indexOf("## Terms"));
        Set<String> want = new TreeSet<>();
        Matcher m = Pattern.compile("public (int|boolean) (\\w+)\\(([^)]*)\\);").matcher(block);
        while (m.find()) {
            want.add(m.group(1) + " " + m.group(2) + " "
                + (m.group(3).isEmpty() ? 0 : m.group(3).split(",").length));
        }
        Checks.due("methods of the document", want.size(), 30);
        Set<String> got = new TreeSet<>();
        Set<String> names = new TreeSet<>();
        for (Method method : EggTown.class.getDeclaredMethods()) {
            boolean open = Modifier.isPublic(method.getModifiers());
            if (open) {
                names.add(method.getName());
                got.add(method.getReturnType() + " " + method.getName() + " " + method.getParameterCount());
                for (Class<?> type : method.getParameterTypes()) {
                    Checks.due("a parameter of " + method.getName() + " is an int", type == int.class, true);
                }
            } else {
                Checks.due(method.getName() + " is private", Modifier.isPrivate(method.getModifiers()), true);
            }
        }
        Checks.due("the face: " + got, got.equals(want), true);
        for (Method method : EggTown.class.getDeclaredMethods()) {
            if (Modifier.isPrivate(method.getModifiers())) {
                Checks.due(method.getName() + " bears a public name", names.contains(method.getName()), false);
            }
        }
        for (Field field : EggTown.class.getDeclaredFields()) {
            boolean none = field.getName().equals("NONE");
            Checks.due("field " + field.getName(), none ? Modifier.isPublic(field.getModifiers())
                : Modifier.isPrivate(field.getModifiers()), true);
        }
        for (Constructor<?> constructor : EggTown.class.getDeclaredConstructors()) {
            Checks.due("constructor", constructor.getParameterCount(), 0);
        }
        Checks.due("final", Modifier.isFinal(EggTown.class.getModifiers()), true);
        Checks.due("NONE", EggTown.NONE, -1);
    }

    private static void words(String code) {
        for (String word : new String[] {"throw", "throws", "try", "catch", "finally", "synchronized", "assert", "import",
            "package", "instanceof", "native", "volatile", "transient", "goto", "protected", "Exact", "Object",
            "hashCode", "toString", "Random", "System\\.(?!arraycopy)", "Thread", "float", "double"}) {
            Checks.due("the word " + word, Pattern.compile("\\b" + word).matcher(code).find(), false);
        }
        Checks.due("lambda", code.contains("->"), false);
        Checks.due("method reference", code.contains("::"), false);
        Matcher m = Pattern.compile("(?m)^\\s*(private |public )?static (?!final)[^(]*[;=]").matcher(code);
        Checks.due("a static field that is not final", m.find(), false);
        Matcher endless = Pattern.compile("\\bwhile\\b|for \\(;;|for \\([^;]*;\\s*;").matcher(code);
        Checks.due("a loop whose end is not seen in its own line", endless.find(), false);
        for (int k = 0; k < code.length(); k++) {
            if (code.charAt(k) > 126) {
                Checks.due("sign at " + k, code.charAt(k), 126);
            }
        }
    }

    private static void methods(String code) {
        Matcher m = Pattern.compile("(?m)^( +)(?:private |public )?(?:static )?\\w+(?:\\[\\])? \\w+\\(([^)]*)\\) \\{$"
            + "((?s:.*?))^\\1\\}$").matcher(code);
        int found = 0;
        while (m.find()) {
            found++;
            String parameters = m.group(2);
            String head = m.group().trim().split("\n")[0];
            Checks.due("parameters of " + head, !parameters.isEmpty() && parameters.split(",").length > 7, false);
            Checks.due("length of " + head, m.group(3).split("\n").length > 60, false);
        }
        Checks.due("methods are found", found > 100, true);
    }

    private static void classes() {
        int all = 1;
        for (Class<?> inner : EggTown.class.getDeclaredClasses()) {
            all++;
            int fields = 0;
            Checks.due(inner + " is static", Modifier.isStatic(inner.getModifiers()), true);
            for (Field field : inner.getDeclaredFields()) {
                fields += Modifier.isStatic(field.getModifiers()) ? 0 : 1;
            }
            Checks.due(inner + " has too many fields", fields > 20, false);
        }
        int fields = 0;
        for (Field field : EggTown.class.getDeclaredFields()) {
            boolean fixed = Modifier.isStatic(field.getModifiers());
            fields += fixed ? 0 : 1;
            Checks.due("a static field is final", fixed && !Modifier.isFinal(field.getModifiers()), false);
        }
        Checks.due("too many fields", fields > 20, false);
        Checks.due("too many classes", all > 12, false);
    }
}
