import java.io.File;
import java.io.IOException;
import java.lang.reflect.Method;
import java.lang.reflect.Modifier;
import java.nio.file.Files;
import java.nio.file.Path;
import java.util.regex.MatchResult;
import java.util.regex.Matcher;
import java.util.regex.Pattern;
import javax.tools.ToolProvider;

/** README.md's pieces of Java compile, answer what stands behind each call, and show every call of the class. */
public final class ReadmeTest {
    private static final Path FOLDER = Path.of("build", "readme");
    private static final Pattern PIECE = Pattern.compile("```java\n(.*?)```", Pattern.DOTALL);
    private static final Pattern ANSWERED =
        Pattern.compile("(?m)^((?:x|new ColdDepots\\(\\))\\.\\w+\\(.*?\\)); +// (-?\\d+|[A-Z]+):.*$");
    private static final Pattern CALL_ALONE = Pattern.compile("(?m)^(x|new ColdDepots\\(\\))\\..*;");

    public static void main(String[] args) throws Exception {
        Due due = new Due();
        String pieces = pieces();
        for (Method method : ColdDepots.class.getDeclaredMethods()) {
            boolean isShown = pieces.contains("\nx." + method.getName() + "(");
            due.due(method.getName() + " is shown", isShown || !Modifier.isPublic(method.getModifiers()) ? 1 : 0, 1);
        }
        String checks = ANSWERED.matcher(pieces).replaceAll(ReadmeTest::check);
        due.due("calls without an answer", CALL_ALONE.matcher(checks).results().count(), 0);
        if (due.holds()) {
            run(due, checks);
        }
        due.end();
    }

    private static String pieces() throws IOException {
        StringBuilder all = new StringBuilder("\n");
        Matcher piece = PIECE.matcher(Files.readString(Path.of("README.md")));
        while (piece.find()) {
            all.append(piece.group(1));
        }
        return all.toString();
    }

    private static String check(MatchResult line) {
        String call = line.group(1);
        boolean isNumber = !Character.isUpperCase(line.group(2).charAt(0));
        String want = isNumber ? line.group(2) + "L" : "ColdDepots." + line.group(2);
        return Matcher.quoteReplacement("due.due(\"" + call + "\", " + call + ", " + want + ");");
    }

    /** The pieces become the body of a class of their own, so that they hold as they stand. */
    private static void run(Due due, String checks) throws Exception {
        Files.createDirectories(FOLDER);
        Path source = FOLDER.resolve("ReadmeExample.java");
        Files.writeString(source, "final class ReadmeExample {\n    static void run(Due due) {\n" + checks + "}\n}\n");
        String classes = System.getProperty("java.class.path");
        String out = classes.split(File.pathSeparator)[0];
        String[] options = {"-cp", classes, "-d", out, source.toString()};
        int ended = ToolProvider.getSystemJavaCompiler().run(null, null, null, options);
        due.due("compiling README.md's pieces", ended, 0);
        if (ended == 0) {
            Method run = Class.forName("ReadmeExample").getDeclaredMethod("run", Due.class);
            run.invoke(null, due);
        }
    }
}
