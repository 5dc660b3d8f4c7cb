import java.lang.reflect.Constructor;
import java.lang.reflect.Field;
import java.lang.reflect.Method;
import java.lang.reflect.Modifier;
import java.nio.charset.StandardCharsets;
import java.nio.file.Files;
import java.nio.file.Path;
import java.util.Arrays;
import java.util.List;
import java.util.Set;
import java.util.TreeSet;
import java.util.regex.Matcher;
import java.util.regex.Pattern;

/** The public face of the document, nothing beside it, and the rules of LANGUAGE.md that a text shows. */
public final class FaceTest {
    private static final String SOURCE = "src/main/java/ReadAloud.java";

    private static final Set<String> FACE = new TreeSet<>(List.of(
        "int letter(int)", "int blank()", "int fault()", "int court()", "int near(int)", "int word(int)",
        "int put(int, int)", "int limit(int)", "int accuse(int, int)", "int about(int, int)", "int as(int, int)",
        "int lesson(int, int)", "int unlearn(int)", "int brief(int)", "int hide(int, int, int)",
        "int hear(int, int, boolean)", "int forget()", "int trials(int, int, int)", "int image()", "int restore()",
        "int count(int)", "long digest()"));

    private static final Set<String> CONSTANTS = new TreeSet<>(List.of(
        "NONE -1", "UNKNOWN -101", "OUTSIDE -102", "STATE -103", "FULL -104"));

    /** Words and signs that rules 2, 4, 6 and 13 leave out. */
    private static final String[] FORBIDDEN = {
        "\\bthrow\\b", "\\bthrows\\b", "\\btry\\b", "\\bcatch\\b", "\\bfinally\\b", "\\bsynchronized\\b",
        "\\bassert\\b", "\\bimport\\b", "\\bpackage\\b", "\\bvar\\b", "->", "::", "@", "\\bprotected\\b",
        "\\bvolatile\\b", "\\bnative\\b", "\\btransient\\b", "\\bequals\\b", "\\bhashCode\\b", "\\btoString\\b",
        "\\bObject\\b", "\\bClass\\b", "\\bThread\\b", "Exact\\b", "\\bRandom\\b", "\\brandom\\b",
        "currentTimeMillis", "nanoTime", "\\bSystem\\.(?!arraycopy\\b)", "\\bMath\\.(?!max\\b|min\\b|abs\\b)",
        "\\bInteger\\.(?!bitCount\\b)"};

    private static int wrong = 0;

    private static void fail(String what) {
        wrong++;
        System.out.println(what);
    }

    private static String signature(Method m) {
        StringBuilder all = new StringBuilder(m.getReturnType() + " " + m.getName() + "(");
        for (int i = 0; i < m.getParameterCount(); i++) {
            all.append(i == 0 ? "" : ", ").append(m.getParameterTypes()[i]);
        }
        return all.append(")").toString();
    }

    private static void methods() {
        Set<String> found = new TreeSet<>();
        Set<String> names = new TreeSet<>();
        for (Method m : ReadAloud.class.getDeclaredMethods()) {
            if (Modifier.isPublic(m.getModifiers())) {
                found.add(signature(m));
                names.add(m.getName());
                if (Modifier.isStatic(m.getModifiers())) fail("static: " + m);
            }
        }
        if (!found.equals(FACE)) fail("public methods are " + found);
        for (Method m : ReadAloud.class.getDeclaredMethods()) {
            if (Modifier.isPublic(m.getModifiers())) continue;
            if (!Modifier.isPrivate(m.getModifiers())) fail("neither public nor private: " + m);
            if (names.contains(m.getName())) fail("a private method bears a public name: " + m);
        }
    }

    private static void fields() throws IllegalAccessException {
        Set<String> found = new TreeSet<>();
        for (Field f : ReadAloud.class.getDeclaredFields()) {
            int how = f.getModifiers();
            if (Modifier.isStatic(how) && !Modifier.isFinal(how)) fail("static and not final: " + f);
            if (Modifier.isPublic(how)) {
                if (!Modifier.isStatic(how) || f.getType() != int.class) fail("no int constant: " + f);
                else found.add(f.getName() + " " + f.getInt(null));
            } else if (!Modifier.isPrivate(how)) {
                fail("neither public nor private: " + f);
            }
        }
        if (!found.equals(CONSTANTS)) fail("public constants are " + found);
    }

    private static void classes() {
        int how = ReadAloud.class.getModifiers();
        if (!Modifier.isPublic(how) || !Modifier.isFinal(how)) fail("the class is not public and final");
        Constructor<?>[] made = ReadAloud.class.getDeclaredConstructors();
        if (made.length != 1 || !Modifier.isPublic(made[0].getModifiers()) || made[0].getParameterCount() != 0) {
            fail("constructors are " + Arrays.toString(made));
        }
        Class<?>[] inside = ReadAloud.class.getDeclaredClasses();
        if (inside.length > 11) fail("too many classes: " + inside.length);
        sizes(ReadAloud.class);
        for (Class<?> c : inside) {
            int its = c.getModifiers();
            if (!Modifier.isStatic(its)) fail("an inner class: " + c);
            if (Modifier.isPublic(its) || Modifier.isProtected(its)) fail("a class to be seen: " + c);
            membersInside(c);
            sizes(c);
        }
    }

    /** Rules 1 and 5 for a class inside: no name of the face, no static state. */
    private static void membersInside(Class<?> c) {
        for (Method m : c.getDeclaredMethods()) {
            if (Modifier.isPublic(m.getModifiers())) fail("a public method inside: " + m);
            if (FACE.stream().anyMatch(call -> call.contains(" " + m.getName() + "("))) {
                fail("a method inside bears a public name: " + m);
            }
        }
        for (Field f : c.getDeclaredFields()) {
            int how = f.getModifiers();
            if (Modifier.isStatic(how) && (!Modifier.isFinal(how) || !f.getType().isPrimitive())) fail("static state: " + f);
        }
    }

    /** Rule 11: at most seven parameters, some twenty fields beside the constants. */
    private static void sizes(Class<?> c) {
        for (Method m : c.getDeclaredMethods()) {
            if (m.getParameterCount() > 7) fail("more than seven parameters: " + m);
        }
        long fields = Arrays.stream(c.getDeclaredFields()).filter(f -> !Modifier.isStatic(f.getModifiers())).count();
        if (fields > 20) fail(fields + " fields in " + c);
    }

    private static void text() throws java.io.IOException {
        String source = Files.readString(Path.of(SOURCE), StandardCharsets.US_ASCII);
        String code = source.replaceAll("(?s)/\\*.*?\\*/", " ").replaceAll("//[^\n]*", " ");
        for (String word : FORBIDDEN) {
            Matcher m = Pattern.compile(word).matcher(code);
            if (m.find()) fail("LANGUAGE.md leaves out " + m.group());
        }
        lengths(source);
    }

    /** Rule 11: no method has more than sixty lines; a method ends with a brace as deep as it begins. */
    private static void lengths(String source) {
        Matcher m = Pattern.compile("(?m)^( +)[a-zA-Z][^;=\n]*\\) \\{\n(?s:.*?)^\\1\\}$").matcher(source);
        int methods = 0;
        while (m.find()) {
            methods++;
            long lines = m.group().lines().count();
            if (lines > 60) fail(lines + " lines from " + m.group().lines().findFirst().orElse("").trim());
        }
        if (methods < FACE.size()) fail("only " + methods + " methods were found in the text");
    }

    public static void main(String[] args) throws Exception {
        methods();
        fields();
        classes();
        text();
        System.out.println(wrong == 0 ? "the face is as the document has it" : wrong + " things are not as due");
        if (wrong != 0) System.exit(1);
    }
}
