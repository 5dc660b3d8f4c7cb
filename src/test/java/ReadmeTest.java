import java.lang.reflect.Method;
import java.lang.reflect.Modifier;
import java.nio.charset.StandardCharsets;
import java.nio.file.Files;
import java.nio.file.Path;
import java.util.regex.Pattern;

/** README.md: its example answers as it is written there, and its table has every call and every constant. */
public final class ReadmeTest {
    private static final Path README = Path.of("README.md");

    private static String readme = "";
    private static int wrong = 0;

    private static void fail(String what) {
        wrong++;
        System.out.println(what);
    }

    /** The example has this call, and its answer ahead of a colon. */
    private static void told(String call, int answer) {
        Pattern line = Pattern.compile(Pattern.quote(call) + "; +// " + answer + ": ");
        if (!line.matcher(readme).find()) fail(call + " answers " + answer + ", README.md tells another answer or none");
    }

    private static void example() {
        ReadAloud x = new ReadAloud();
        String text = "ab,bce,dh,f;abhfdacb";
        if (!readme.contains("String text = \"" + text + "\";")) fail("README.md has another court");
        for (int i = 0; i < text.length(); i++) x.letter(text.charAt(i));
        told("x.court()", x.court());
        int weeper = x.accuse(4, 0);
        told("x.accuse(4, 0)", weeper);
        told("x.about(weeper, 2)", x.about(weeper, 2));
        told("x.about(weeper, 4)", x.about(weeper, 4));
        told("x.hide(weeper, 2, 0)", x.hide(weeper, 2, 0));
        told("x.hide(weeper, 2, 1)", x.hide(weeper, 2, 1));
        told("x.hear(weeper, 1, true)", x.hear(weeper, 1, true));
        told("x.about(weeper, 6)", x.about(weeper, 6));
        told("x.about(weeper, 7)", x.about(weeper, 7));
        told("x.brief(0)", x.brief(0));
    }

    private static void table() {
        for (Method m : ReadAloud.class.getDeclaredMethods()) {
            if (!Modifier.isPublic(m.getModifiers())) continue;
            String arguments = m.getParameterCount() == 0 ? "" : "\\w+(, \\w+){" + (m.getParameterCount() - 1) + "}";
            Pattern row = Pattern.compile("(?m)^\\| `" + m.getName() + "\\(" + arguments + "\\)` \\|");
            if (!row.matcher(readme).find()) fail("README.md has no row of " + m);
        }
    }

    private static void constants() {
        String[] names = {"NONE", "UNKNOWN", "OUTSIDE", "STATE", "FULL"};
        int[] numbers = {ReadAloud.NONE, ReadAloud.UNKNOWN, ReadAloud.OUTSIDE, ReadAloud.STATE, ReadAloud.FULL};
        for (int i = 0; i < names.length; i++) {
            String told = "`" + names[i] + "` (" + numbers[i] + ")";
            if (!readme.contains(told)) fail("README.md does not tell " + told);
        }
    }

    public static void main(String[] args) throws java.io.IOException {
        readme = Files.readString(README, StandardCharsets.UTF_8);
        example();
        table();
        constants();
        System.out.println(wrong == 0 ? "README.md is as the class is" : wrong + " things are not as README.md has them");
        if (wrong != 0) System.exit(1);
    }
}
