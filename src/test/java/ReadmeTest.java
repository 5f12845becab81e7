import java.io.ByteArrayOutputStream;
import java.io.IOException;
import java.io.PrintStream;
import java.lang.reflect.Method;
import java.lang.reflect.Modifier;
import java.nio.file.Files;
import java.nio.file.Path;
import java.util.regex.Matcher;
import java.util.regex.Pattern;

/** README.md shows the program of Example and what it prints, and tells every call of the face. */
public final class ReadmeTest {
    private ReadmeTest() {
    }

    public static void main(String[] args) throws IOException {
        Checks checks = new Checks();
        String readme = Files.readString(Path.of("README.md"));
        same(checks, "the program", shownProgram(), block(readme, "java"));
        same(checks, "what it prints", printed(), block(readme, "text"));
        for (Method method : ChequeDesk.class.getDeclaredMethods()) {
            if (Modifier.isPublic(method.getModifiers())) {
                checks.same("README tells " + told(method), 1, found(readme, told(method)));
            }
        }
        checks.close();
    }

    private static void same(Checks checks, String what, String want, String got) {
        checks.same(what + " in README.md is\n" + got + "\nand due is\n" + want + "\n: same", 1, want.equals(got) ? 1 : 0);
    }

    private static String shownProgram() throws IOException {
        String source = Files.readString(Path.of("src/test/java/Example.java"));
        Matcher shown = Pattern.compile("(?ms)^ *// README begins\\n(.*?)^ *// README ends$").matcher(source);
        return shown.find() ? shown.group(1).replaceAll("(?m)^ {8}", "") : "nothing";
    }

    private static String block(String readme, String kind) {
        Matcher block = Pattern.compile("(?ms)^```" + kind + "\\n(.*?)^```$").matcher(readme);
        return block.find() ? block.group(1) : "";
    }

    private static String printed() {
        PrintStream screen = System.out;
        ByteArrayOutputStream bytes = new ByteArrayOutputStream();
        System.setOut(new PrintStream(bytes, true));
        Example.main(new String[0]);
        System.setOut(screen);
        return bytes.toString().replace("\r\n", "\n");
    }

    /** How a row of the tables begins, up to how many arguments there are. */
    private static String told(Method method) {
        String more = "\\w+, ".repeat(Math.max(0, method.getParameterCount() - 1));
        return "^\\| `" + method.getName() + "\\(" + more + (method.getParameterCount() > 0 ? "\\w+" : "") + "\\)` \\|";
    }

    private static int found(String readme, String pattern) {
        int n = 0;
        for (Matcher matcher = Pattern.compile(pattern, Pattern.MULTILINE).matcher(readme); matcher.find();) {
            n++;
        }
        return n;
    }
}
