import java.lang.reflect.Method;
import java.lang.reflect.Modifier;
import java.nio.charset.StandardCharsets;
import java.nio.file.Files;
import java.nio.file.Path;
import java.util.List;
import java.util.regex.Matcher;
import java.util.regex.Pattern;

/** README.md's example is right: its calls are made one by one, on the objects that it makes. */
public final class ReadmeTest {
    private static final Pattern CALL = Pattern.compile("town\\.(\\w+)\\((.*?)\\);\\s*// (-?\\d+|true|false)(: (.*))?");
    private static final String NEW = "GooseLetters town = new GooseLetters();";

    private static GooseLetters town = null;
    private static int calls = 0;

    public static void main(String[] args) throws Exception {
        List<String> lines = Files.readAllLines(Path.of("README.md"), StandardCharsets.UTF_8);
        example(lines);
        everyMethod(String.join("\n", lines));
        Check.due("README.md has the command for the tests", lines.contains(".ci/run"), true);
        Check.finish();
    }

    private static void example(List<String> lines) throws Exception {
        boolean inside = false;
        for (String line : lines) {
            if (line.startsWith("```")) {
                inside = line.equals("```java");
            } else if (inside && line.equals(NEW)) {
                town = new GooseLetters();
            } else if (inside) {
                call(line);
            }
        }
        Check.due("README.md has an example", town != null && calls > 20, true);
        Check.due("an object has 512 calls", calls <= 512, true);
    }

    private static void call(String line) throws Exception {
        Matcher m = CALL.matcher(line);
        boolean plain = m.matches();
        Check.due("a call with its answer: " + line, plain && town != null, true);
        if (!plain || town == null) {
            return;
        }
        calls++;
        String[] given = m.group(2).isEmpty() ? new String[0] : m.group(2).split(", ");
        Object got = methodOf(m.group(1)).invoke(town, values(given));
        Check.due(line + " is " + got, got.toString().equals(m.group(3)), true);
        if (m.group(1).equals("feed")) {
            sameBytes(line, given, m.group(5));
        }
    }

    private static Method methodOf(String name) {
        for (Method m : GooseLetters.class.getDeclaredMethods()) {
            if (Modifier.isPublic(m.getModifiers()) && m.getName().equals(name)) {
                return m;
            }
        }
        throw new IllegalArgumentException(name);
    }

    private static Object[] values(String[] given) {
        Object[] values = new Object[given.length];
        for (int i = 0; i < given.length; i++) {
            boolean word = given[i].equals("true") || given[i].equals("false");
            values[i] = word ? (Object) Boolean.valueOf(given[i]) : (Object) Integer.decode(given[i]);
        }
        return values;
    }

    /** The words quoted behind a feed are those that it feeds. */
    private static void sameBytes(String line, String[] given, String quoted) {
        StringBuilder bytes = new StringBuilder("\"");
        for (String number : given) {
            int word = Integer.decode(number);
            for (int shift = 24; shift >= 0; shift -= 8) {
                bytes.append((char) (word >> shift & 255));
            }
        }
        Check.due(line + " feeds " + bytes, bytes.append('"').toString().equals(quoted), true);
    }

    private static void everyMethod(String readme) {
        for (Method m : GooseLetters.class.getDeclaredMethods()) {
            if (Modifier.isPublic(m.getModifiers())) {
                String head = "`" + m.getName() + "(";
                int at = readme.indexOf(head);
                Check.due("README.md tells " + m.getName(), at >= 0, true);
                int close = at < 0 ? -1 : readme.indexOf(')', at);
                String given = close < 0 ? "?" : readme.substring(at + head.length(), close);
                int count = given.isEmpty() ? 0 : given.split(", ").length;
                Check.due("parameters of " + m.getName(), count, m.getParameterCount());
            }
        }
    }
}
