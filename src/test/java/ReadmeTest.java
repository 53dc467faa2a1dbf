import java.io.IOException;
import java.io.PrintWriter;
import java.io.StringWriter;
import java.lang.reflect.Method;
import java.lang.reflect.Modifier;
import java.net.URI;
import java.net.URL;
import java.net.URLClassLoader;
import java.nio.file.Files;
import java.nio.file.Path;
import java.util.ArrayList;
import java.util.Collections;
import java.util.List;
import java.util.function.BiConsumer;
import java.util.regex.Matcher;
import java.util.regex.Pattern;
import java.util.stream.Collectors;
import java.util.stream.Stream;
import javax.tools.JavaCompiler;
import javax.tools.SimpleJavaFileObject;
import javax.tools.ToolProvider;

/** README.md: what it shows compiles and answers what it says, and its command runs all tests. */
public final class ReadmeTest {
    private static final Path README = Path.of("README.md");
    private static final Path SCRIPT = Path.of(".ci/run");
    private static final Path TESTS = Path.of("src/test/java");

    private static final Pattern BLOCK = Pattern.compile("```java\n(.*?)```", Pattern.DOTALL);
    // A call, and behind it "// 5: the life that is left".
    private static final Pattern SHOWN = Pattern.compile(
        " *(dungeon\\.\\w+\\(.*\\)); +// (-?\\d+|NONE|throws \\w+): \\S.*");
    private static final String IN_A_LOOP = "dungeon.type(letter);";
    // A row of the table of actions: "| 0 to 3 | steps | `n` `e` `s` `w` |".
    private static final Pattern ROW = Pattern.compile("\\| (\\d+)( to \\d+)? *\\|[^|\n]*\\|([^|\n]*)\\|");
    private static final Pattern LETTERS = Pattern.compile("`([^`]+)`");
    private static final int ACTIONS = 16;
    private static final int PUT_OUT = 14;

    private static final class Source extends SimpleJavaFileObject {
        private final String text;

        Source(String name, String text) {
            super(URI.create("string:///" + name + ".java"), Kind.SOURCE);
            this.text = text;
        }

        @Override
        public CharSequence getCharContent(boolean ignoreErrors) {
            return text;
        }
    }

    private static List<String> shownLines(String readme) {
        List<String> lines = new ArrayList<>();
        Matcher blocks = BLOCK.matcher(readme);
        while (blocks.find()) {
            lines.addAll(blocks.group(1).lines().collect(Collectors.toList()));
        }
        return lines;
    }

    /** The blocks as they stand, in a class of their own. */
    private static String asShown(List<String> lines) {
        return "public final class Shown { public static void main(String[] args) {\n"
            + String.join("\n", lines) + "\n} }";
    }

    /** The blocks, with each call that has an answer behind it handing both to a consumer. */
    private static String asked(List<String> lines) {
        StringBuilder text = new StringBuilder();
        text.append("public final class Asked { public static void run(")
            .append("java.util.function.BiConsumer<String, String> answers) {\n");
        for (String line : lines) {
            Matcher shown = SHOWN.matcher(line);
            text.append(shown.matches() ? ask(shown.group(1), line) : line).append('\n');
        }
        return text.append("} }").toString();
    }

    private static String ask(String call, String line) {
        String quoted = "\"" + line.replace("\\", "\\\\").replace("\"", "\\\"") + "\"";
        return "try { answers.accept(" + quoted + ", String.valueOf(" + call + ")); }"
            + " catch (RuntimeException thrown) {"
            + " answers.accept(" + quoted + ", \"throws \" + thrown.getClass().getSimpleName());"
            + " throw thrown; }";
    }

    private static boolean compiles(Path folder, String name, String text) {
        JavaCompiler compiler = ToolProvider.getSystemJavaCompiler();
        if (compiler == null) {
            System.out.println("there is no compiler in this java");
            return false;
        }
        StringWriter complaints = new StringWriter();
        List<String> options = List.of("-Xlint:all", "-Werror", "-d", folder.toString(),
            "-classpath", System.getProperty("java.class.path"));
        boolean fine = compiler.getTask(new PrintWriter(complaints), null, null, options, null,
            List.of(new Source(name, text))).call();
        System.out.print(complaints);
        return fine;
    }

    private static void compareAnswer(String line, String answer) {
        Matcher shown = SHOWN.matcher(line);
        boolean same = shown.matches() && shown.group(2).replace("NONE", "-1").equals(answer);
        Check.same("README shows \"" + line + "\", the answer is " + answer, same ? 1 : 0, 1);
    }

    /** Each call that is shown, but the one in a loop, must have an answer behind it. */
    private static void checkAnswers(Path folder, List<String> lines) throws Exception {
        List<String> due = lines.stream().filter(line -> line.strip().startsWith("dungeon."))
            .filter(line -> !line.endsWith(IN_A_LOOP)).collect(Collectors.toList());
        List<String> asked = new ArrayList<>();
        BiConsumer<String, String> answers = (line, answer) -> {
            asked.add(line);
            compareAnswer(line, answer);
        };
        try (URLClassLoader loader = new URLClassLoader(new URL[] {folder.toUri().toURL()})) {
            // What throws in either of them ends this test, which fails then.
            loader.loadClass("Shown").getMethod("main", String[].class).invoke(null, (Object) new String[0]);
            loader.loadClass("Asked").getMethod("run", BiConsumer.class).invoke(null, answers);
        }
        Check.same("each call that README shows has its answer", asked.equals(due) ? 1 : 0, 1);
    }

    private static void checkUse(List<String> lines) throws Exception {
        Path folder = Files.createTempDirectory("readme");
        try {
            boolean shown = compiles(folder, "Shown", asShown(lines));
            Check.same("what README shows compiles", shown ? 1 : 0, 1);
            if (shown && compiles(folder, "Asked", asked(lines))) {
                checkAnswers(folder, lines);
            } else {
                Check.same("what README shows can be asked", 0, 1);
            }
        } finally {
            remove(folder);
        }
    }

    private static void remove(Path folder) throws IOException {
        try (Stream<Path> files = Files.walk(folder)) {
            List<Path> all = files.collect(Collectors.toList());
            Collections.reverse(all);
            for (Path file : all) {
                Files.delete(file);
            }
        }
    }

    private static void checkMethods(List<String> lines) {
        String shown = String.join("\n", lines);
        for (Method method : EchoDungeon.class.getDeclaredMethods()) {
            if (Modifier.isPublic(method.getModifiers())) {
                boolean isShown = shown.contains("dungeon." + method.getName() + "(");
                Check.same("README shows " + method.getName(), isShown ? 1 : 0, 1);
            }
        }
    }

    /** A hero with a door on each side, who can do the action, and a monster that hears all. */
    private static EchoDungeon readyFor(int action) {
        EchoDungeon x = new EchoDungeon();
        x.placeHero(1, 1, 5, 20);
        x.addMonster(4, 3, 1, 0);
        x.addDoor(1, 0, 2, 0, 9);
        x.addDoor(1, 1, 1, 0, 9);
        x.addDoor(1, 1, 2, 0, 9);
        x.addDoor(0, 1, 1, 0, 9);
        for (int door = 0; door < 4; door++) {
            x.setDoor(door, action >= 4 && action < 8 ? 0 : 1);
        }
        if (action == PUT_OUT) {
            x.act(13);
        }
        return x;
    }

    /** What is shown as the text of an action does what the action does. */
    private static void checkActions(String readme) {
        int action = 0;
        Matcher rows = ROW.matcher(readme);
        while (rows.find()) {
            Check.same("a row of README's actions begins", Integer.parseInt(rows.group(1)), action);
            Matcher texts = LETTERS.matcher(rows.group(3));
            while (texts.find() && action < ACTIONS) {
                EchoDungeon x = readyFor(action);
                EchoDungeon twin = readyFor(action);
                Twins.type(x, texts.group(1));
                Twins.type(twin, texts.group(1));
                Check.same("README's " + texts.group(1), x.runActions(), 1);
                twin.act(action);
                Check.same("README's " + texts.group(1) + " and act(" + action + ")", x.digest(), twin.digest());
                action++;
            }
            String last = rows.group(2) == null ? rows.group(1) : rows.group(2).replace(" to ", "");
            Check.same("a row of README's actions ends", Integer.parseInt(last), action - 1);
        }
        Check.same("README's actions", action, ACTIONS);
    }

    /** The script takes the files whose names end in Test.java, so no test may be named otherwise. */
    private static void checkCommand(String readme) throws IOException {
        Check.same("README names its command", readme.contains("\n    .ci/run\n") ? 1 : 0, 1);
        Check.same(SCRIPT + " can be run", Files.isExecutable(SCRIPT) ? 1 : 0, 1);
        String script = Files.readString(SCRIPT);
        Check.same("the script takes the project's tests", script.contains(TESTS + "/*Test.java") ? 1 : 0, 1);
        Check.same("the script takes the shared tests", script.contains("../shared/tests") ? 1 : 0, 1);
        List<Path> files;
        try (Stream<Path> all = Files.walk(TESTS)) {
            files = all.filter(Files::isRegularFile).collect(Collectors.toList());
        }
        for (Path file : files) {
            boolean isTest = Files.readString(file).contains("public static void main(String[] args)");
            String name = file.getFileName().toString();
            boolean isTaken = name.endsWith("Test.java") && file.getParent().equals(TESTS);
            Check.same(file + " is a test that the script takes", isTaken ? 1 : 0, isTest ? 1 : 0);
            boolean isNamed = readme.contains("`" + name.replace(".java", "") + "`");
            Check.same("README names " + name, isNamed || !isTest ? 1 : 0, 1);
        }
    }

    public static void main(String[] args) throws Exception {
        String readme = Files.readString(README);
        List<String> lines = shownLines(readme);
        checkUse(lines);
        checkMethods(lines);
        checkActions(readme);
        checkCommand(readme);
        Check.finish();
    }
}
