import java.io.IOException;
import java.lang.reflect.Field;
import java.lang.reflect.Method;
import java.lang.reflect.Modifier;
import java.nio.file.Files;
import java.nio.file.Path;
import java.util.regex.Matcher;
import java.util.regex.Pattern;

/** What can be told of ../shared/LANGUAGE.md from the text of the source, and from what its classes hold. */
public final class LanguageTest {
    private static final String[] RULED_OUT = {
        "\\bcatch\\b", "\\btry\\b", "\\bfinally\\b", "\\bsynchronized\\b", "\\bassert\\b", "^package\\b",
        "\\bimport\\b", "->", "::", "\\bSystem\\.(?!arraycopy)", "\\bRandom\\b", "_VALUE\\b", "\\bThread\\b", "Exact\\(",
        "\\bequals\\(", "\\bhashCode\\b", "\\btoString\\b", "\\bvolatile\\b", "\\bprotected\\b", "\\bnew int\\[[^;]*\\]\\[",
        "[^\\x00-\\x7f]"
    };

    public static void main(String[] args) throws IOException {
        Checks checks = new Checks();
        String source = Files.readString(Path.of("src/main/java/ChequeDesk.java"));
        String code = source.replaceAll("(?s)/\\*.*?\\*/", "").replaceAll("//[^\\n]*", "");
        for (String pattern : RULED_OUT) {
            checks.same("the source has " + pattern, 0, found(pattern, code));
        }
        checks.same("static fields that are not final", 0,
            found("\\bstatic (?!final\\b)[\\w\\[\\]]+ \\w+ *[=;]", code));
        checks.same("classes, twelve at most", 1, found("\\b(class|record|enum|interface) [A-Z]", code) <= 12 ? 1 : 0);
        checks.same("an object is made outside of constructors and fields", 0, objectsMadeInCalls(code));
        methodLengths(checks, code);
        libraryCalls(checks, code);
        sizes(checks, ChequeDesk.class);
        for (Class<?> inside : ChequeDesk.class.getDeclaredClasses()) {
            sizes(checks, inside);
        }
        checks.close();
    }

    private static int found(String pattern, String code) {
        Matcher matcher = Pattern.compile(pattern, Pattern.MULTILINE).matcher(code);
        int n = 0;
        while (matcher.find()) {
            n++;
        }
        return n;
    }

    /** Of all runs one room is shared: only fields, the constructor and exceptions may say new. */
    private static int objectsMadeInCalls(String code) {
        return found("^(?!.*\\bfinal .*=)(?!        \\w+ = new )(?!.*throw new ).*\\bnew\\b", code);
    }

    private static void methodLengths(Checks checks, String code) {
        int start = -1;
        String close = "";
        String[] lines = code.split("\n");
        for (int i = 0; i < lines.length; i++) {
            Matcher head = Pattern.compile("^( {4}| {8})(?! |if|for|while|switch|else)[\\w\\[\\] ]+\\(.*\\{$").matcher(lines[i]);
            if (start < 0 && head.find()) {
                start = i;
                close = head.group(1) + "}";
            } else if (start >= 0 && lines[i].equals(close)) {
                checks.same("a short method:" + lines[start], 1, i - start < 60 ? 1 : 0);
                start = -1;
            }
        }
        checks.same("each method ends", -1, start);
    }

    /** Every call by a class's name is one of these. */
    private static void libraryCalls(Checks checks, String code) {
        Matcher call = Pattern.compile("\\b([A-Z]\\w*\\.\\w+)\\(").matcher(code);
        while (call.find()) {
            checks.same("calls " + call.group(1), 1,
                call.group(1).matches("Math\\.(abs|min|max)|Alphabet\\.areWidths") ? 1 : 0);
        }
    }

    /** Rule 11's limits, and rule 3's types as far as this class needs them. */
    private static void sizes(Checks checks, Class<?> owner) {
        int fields = 0;
        for (Field field : owner.getDeclaredFields()) {
            Class<?> type = field.getType();
            fields += Modifier.isStatic(field.getModifiers()) ? 0 : 1;
            checks.same(owner + "'s " + field.getName() + " has a plain type", 1,
                type == int.class || type == boolean.class || type == int[].class
                    || type.getEnclosingClass() == ChequeDesk.class ? 1 : 0);
        }
        checks.same(owner + " has twenty fields at most", 1, fields <= 20 ? 1 : 0);
        for (Method method : owner.getDeclaredMethods()) {
            checks.same(method + " has seven parameters at most", 1, method.getParameterCount() <= 7 ? 1 : 0);
        }
    }
}
