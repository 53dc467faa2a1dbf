import java.io.IOException;
import java.nio.file.Files;
import java.nio.file.Path;
import java.util.ArrayList;
import java.util.Arrays;
import java.util.List;
import java.util.regex.Matcher;
import java.util.regex.Pattern;

/** Those rules of LANGUAGE.md that can be seen in the text of the program. */
public final class LanguageTest {
    private static final Path PROGRAM = Path.of("src/main/java/EchoDungeon.java");
    private static final int MOST_LINES = 60;
    private static final int MOST_PARAMETERS = 7;
    private static final int MOST_FIELDS = 20;
    private static final int MOST_CLASSES = 12;

    /** The text without its comments and the contents of its constants in quotes. */
    private static String codeOf(String text) {
        return text.replaceAll("(?s)/\\*.*?\\*/", "").replaceAll("//[^\n]*", "")
            .replaceAll("\"(\\\\.|[^\"\\\\])*\"", "\"\"").replaceAll("'(\\\\.|[^'\\\\])'", "''");
    }

    private static void noSuch(String what, String pattern, String code) {
        Matcher found = Pattern.compile(pattern).matcher(code);
        if (found.find()) {
            Check.same(what + ": " + found.group(), 1, 0);
        }
    }

    private static void words(String code) {
        noSuch("rule 1, no package, and no import is needed", "\\b(package|import)\\b", code);
        noSuch("rule 2", "->|::", code);
        noSuch("rule 3 and 4", "\\b(double|float)\\b.*[%]|\\bObject\\b|\\bMap\\b|\\bSystem\\.(?!arraycopy)", code);
        noSuch("rule 4", "Exact\\b|\\bString\\.format\\b|\\bprintf?\\b", code);
        noSuch("rule 5", "\\bstatic\\s*\\{", code);
        noSuch("rule 6", "\\b(try|catch|finally|synchronized|assert|equals|hashCode|toString|extends)\\b", code);
        noSuch("rule 6, the exceptions", "throw (?!new (IllegalStateException|IllegalArgumentException"
            + "|IndexOutOfBoundsException)\\(\"\"\\);)", code);
        noSuch("rule 13", "\\b(Random|currentTimeMillis|nanoTime|Thread|File|getenv)\\b", code);
    }

    private static void staticFields(String code) {
        Matcher fields = Pattern.compile("\\bstatic (?!final)[^(){};]*;").matcher(code);
        while (fields.find()) {
            Check.same("rule 5: " + fields.group(), 1, 0);
        }
    }

    /** Methods begin at a line with a brace at its end and at four or eight spaces. */
    private static void methods(List<String> lines) {
        String begin = "";
        int at = 0;
        for (int n = 0; n < lines.size(); n++) {
            String line = lines.get(n);
            int spaces = line.length() - line.stripLeading().length();
            if ((spaces == 4 || spaces == 8) && line.contains("(") && !line.trim().startsWith("*")) {
                begin = line.trim();
                at = n;
                Check.same("rule 11, parameters of " + begin,
                    line.split(",").length > MOST_PARAMETERS ? 1 : 0, 0);
            }
            if ((spaces == 4 || spaces == 8) && line.trim().equals("}")) {
                Check.same("rule 11, lines of " + begin, n - at + 1 > MOST_LINES ? 1 : 0, 0);
            }
        }
    }

    private static void classes() {
        List<Class<?>> all = new ArrayList<>(Arrays.asList(EchoDungeon.class.getDeclaredClasses()));
        all.add(EchoDungeon.class);
        Check.same("rule 11, classes", all.size() > MOST_CLASSES ? 1 : 0, 0);
        for (Class<?> one : all) {
            long fields = Arrays.stream(one.getDeclaredFields())
                .filter(f -> !java.lang.reflect.Modifier.isStatic(f.getModifiers())).count();
            Check.same("rule 11, fields of " + one, fields > MOST_FIELDS ? 1 : 0, 0);
        }
    }

    public static void main(String[] args) throws IOException {
        String text = Files.readString(PROGRAM);
        for (int i = 0; i < text.length(); i++) {
            Check.same("the sign at " + i, text.charAt(i) > 126 ? 1 : 0, 0);
        }
        String code = codeOf(text);
        words(code);
        staticFields(code);
        methods(Files.readAllLines(PROGRAM));
        classes();
        Check.finish();
    }
}
