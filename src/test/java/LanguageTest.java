import java.lang.reflect.Constructor;
import java.lang.reflect.Field;
import java.lang.reflect.Method;
import java.lang.reflect.Modifier;
import java.nio.charset.StandardCharsets;
import java.nio.file.Files;
import java.nio.file.Path;
import java.util.Arrays;
import java.util.List;
import java.util.TreeSet;
import java.util.regex.Matcher;
import java.util.regex.Pattern;

/** The face of the document, and those rules of LANGUAGE.md that can be seen without reading the code. */
public final class LanguageTest {
    private static final List<String> FACE = Arrays.asList("int market(int,int,int)", "int goose(int,int)", "boolean store(int,int)",
        "boolean seed(int)", "int fill(int,int,int)", "int send(int,int)", "int fatten(int)", "int pluck(int)", "boolean name(int)",
        "int pass(int)", "int feed(int,int,int,int,int)", "int end(int)", "int text()", "int fault(int)", "boolean by(int)",
        "int played(int)", "int undo()", "int of(int,int)", "int ink(int,int,int)", "int known(int,int)", "int led(int,boolean)",
        "int answer(int)", "int plucks(int)", "long odds(int,int,boolean)", "int plan(int,int,int)", "int holds()", "int image()",
        "int back()", "int about(int)");

    public static void main(String[] args) throws Exception {
        face();
        classes();
        words();
        Check.finish();
    }

    private static void face() {
        Class<?> c = GooseLetters.class;
        Check.due("public and final", Modifier.isPublic(c.getModifiers()) && Modifier.isFinal(c.getModifiers()), true);
        TreeSet<String> seen = new TreeSet<>();
        TreeSet<String> names = new TreeSet<>();
        for (Method m : c.getDeclaredMethods()) {
            if (Modifier.isPublic(m.getModifiers())) {
                String all = Arrays.toString(m.getParameterTypes()).replace(" ", "");
                seen.add(m.getReturnType() + " " + m.getName() + "(" + all.substring(1, all.length() - 1) + ")");
                names.add(m.getName());
            }
        }
        Check.due("the methods of the face " + seen, seen.equals(new TreeSet<>(FACE)), true);
        for (Method m : c.getDeclaredMethods()) {
            boolean open = Modifier.isPublic(m.getModifiers());
            Check.due("private " + m, open || Modifier.isPrivate(m.getModifiers()), true);
            Check.due("a name of its own " + m, open || !names.contains(m.getName()), true);
        }
        for (Field f : c.getDeclaredFields()) {
            Check.due("private " + f, f.getName().equals("NONE") || Modifier.isPrivate(f.getModifiers()), true);
        }
        Constructor<?>[] makers = c.getDeclaredConstructors();
        Check.due("one constructor", makers.length == 1 && Modifier.isPublic(makers[0].getModifiers()), true);
        Check.due("of nothing", makers[0].getParameterCount(), 0);
    }

    private static void classes() {
        Class<?>[] inside = GooseLetters.class.getDeclaredClasses();
        Check.due("twelve classes at most", inside.length <= 11, true);
        for (Class<?> c : inside) {
            Check.due("private and static " + c, Modifier.isPrivate(c.getModifiers()) && Modifier.isStatic(c.getModifiers()), true);
            members(c);
        }
        members(GooseLetters.class);
    }

    private static void members(Class<?> c) {
        int own = 0;
        for (Field f : c.getDeclaredFields()) {
            boolean still = Modifier.isStatic(f.getModifiers());
            own += still ? 0 : 1;
            Check.due("static is final " + f, !still || Modifier.isFinal(f.getModifiers()), true);
        }
        Check.due("twenty fields at most in " + c, own <= 20, true);
        for (Method m : c.getDeclaredMethods()) {
            Check.due("seven parameters at most " + m, m.getParameterCount() <= 7, true);
            Check.due("a plain method " + m, !m.isSynthetic(), true);
        }
    }

    private static void words() throws Exception {
        String source = Files.readString(Path.of("src/main/java/GooseLetters.java"), StandardCharsets.ISO_8859_1);
        String bare = source.replaceAll("(?s)/\\*.*?\\*/", "").replaceAll("//[^\n]*", "").replaceAll("\"[^\"\n]*\"", "\"\"");
        String[] never = {"\\bthrow\\b", "\\bthrows\\b", "\\btry\\b", "\\bcatch\\b", "\\bsynchronized\\b", "\\bassert\\b", "->", "::",
            "\\bimport\\b", "\\bpackage\\b", "Exact\\b", "\\bprotected\\b", "\\bstatic\\s*\\{", "\\[\\]\\s*\\[\\]\\s*\\[\\]", "\" *\\+",
            "\\+ *\"", "\\bSystem\\.(?!arraycopy)", "\\bvar\\b", "\\bfloat\\b", "\\bdouble\\b"};
        for (String word : never) {
            Matcher m = Pattern.compile(word).matcher(bare);
            Check.due("never " + word, m.find(), false);
        }
        for (int i = 0; i < source.length(); i++) {
            if (source.charAt(i) > 126) {
                Check.due("a sign above 126 at " + i, source.charAt(i), 126);
            }
        }
        Matcher m = Pattern.compile("\n( {4}| {8})(?! )[^\n;=]*\\) \\{\n(.*?)\n\\1\\}", Pattern.DOTALL).matcher(bare);
        int methods = 0;
        while (m.find()) {
            methods++;
            Check.due("sixty lines at most " + m.group().trim().split("\n")[0], m.group(2).split("\n").length <= 60, true);
        }
        Check.due("methods are found", methods > 80, true);
    }
}
