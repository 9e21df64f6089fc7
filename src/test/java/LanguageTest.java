import java.io.IOException;
import java.lang.reflect.Field;
import java.lang.reflect.Method;
import java.lang.reflect.Modifier;
import java.nio.file.Files;
import java.nio.file.Path;
import java.util.ArrayList;
import java.util.List;
import java.util.Map;
import java.util.Set;
import java.util.TreeMap;
import java.util.TreeSet;
import java.util.regex.MatchResult;
import java.util.regex.Matcher;
import java.util.regex.Pattern;

/** The rules of LANGUAGE.md that can be read off source and class; what the class does without is not let in. */
public final class LanguageTest {
    private static final String COMMENTS_AND_TEXTS =
        "(?s)/\\*.*?\\*/|//[^\n]*|\"(?:\\\\.|[^\"\\\\])*\"|'(?:\\\\.|[^'\\\\])+'";
    private static final Pattern METHOD =
        Pattern.compile("(?m)^( +)(?:public|private)(?: static)?(?: final)?(?: [\\w\\[\\]]+)? (\\w+)\\([^)]*\\) \\{$");
    private static final Set<String> LIBRARY = Set.of("Math.min", "Math.max", "Math.abs", "Integer.bitCount");
    private static final Set<Class<?>> TYPES =
        Set.of(int.class, long.class, boolean.class, char.class, String.class, int[].class, long[].class, char[].class);

    private final Due due = new Due();
    private final List<Class<?>> classes = new ArrayList<>(List.of(ColdDepots.class));
    private final String source;
    private final Map<String, String> bodies = new TreeMap<>();

    private LanguageTest(String text) {
        due.due("signs beyond 127", text.chars().filter(sign -> sign > 127).count(), 0);
        source = text.replaceAll(COMMENTS_AND_TEXTS, "0");
        classes.addAll(List.of(ColdDepots.class.getDeclaredClasses()));
        Matcher head = METHOD.matcher(source);
        while (head.find()) {
            int end = source.indexOf("\n" + head.group(1) + "}", head.end() - 1);
            String body = source.substring(head.end(), Math.max(head.end(), end));
            due.due("this test reads " + head.group(2) + " twice", bodies.put(head.group(2), body) == null ? 0 : 1, 0);
        }
    }

    public static void main(String[] args) throws IOException {
        LanguageTest test = new LanguageTest(Files.readString(Path.of("src/main/java/ColdDepots.java")));
        test.classes();
        test.fields();
        test.words();
        test.library();
        test.indexesAndDivisors();
        test.methods();
        test.calls();
        test.due.end();
    }

    private void none(String rule, String pattern) {
        for (MatchResult found : Pattern.compile(pattern).matcher(source).results().toList()) {
            due.due(rule + ": '" + found.group() + "' is found", 1, 0);
        }
    }

    private void classes() {
        due.due("rule 11: classes, 12 or fewer", classes.size() <= 12 ? 1 : 0, 1);
        due.due("rule 2: classes that are told", Pattern.compile("\\b(class|record|enum|interface) \\w").matcher(source)
            .results().count(), classes.size());
        for (Class<?> one : classes.subList(1, classes.size())) {
            int modifiers = one.getModifiers();
            boolean isSeen = Modifier.isPublic(modifiers) || Modifier.isProtected(modifiers);
            due.due("rules 1 and 2: " + one.getName() + " is static and not seen",
                Modifier.isStatic(modifiers) && !isSeen && one.getDeclaredClasses().length == 0 ? 1 : 0, 1);
        }
    }

    private void fields() {
        for (Class<?> one : classes) {
            int own = 0;
            for (Field field : one.getDeclaredFields()) {
                boolean isStatic = Modifier.isStatic(field.getModifiers());
                String name = one.getName() + "." + field.getName();
                own += isStatic ? 0 : 1;
                due.due("rule 5: " + name, isStatic && !Modifier.isFinal(field.getModifiers()) ? 1 : 0, 0);
                boolean isOfType = TYPES.contains(field.getType()) || !isStatic && classes.contains(field.getType());
                due.due("rule 3: the type of " + name, isOfType ? 1 : 0, 1);
            }
            due.due("rule 11: fields of " + one.getName() + ", 20 or fewer", own <= 20 ? 1 : 0, 1);
        }
    }

    private void words() {
        none("rule 6", "\\b(throws?|try|catch|finally|synchronized|assert|instanceof|equals|hashCode|toString)\\b");
        none("rule 2", "->|::");
        none("rule 5", "\\bstatic\\s*\\{");
        none("rules 1 and 4", "(?m)^\\s*(package|import)\\b");
        none("rule 9: a loop whose end is not seen", "\\b(while|do)\\b|for \\([^;:]*;\\s*;");
        none("rule 3", "\\b(double|float|Object|var)\\b");
    }

    private void library() {
        for (MatchResult use : Pattern.compile("\\b[A-Z][a-z]\\w*\\.\\w+").matcher(source).results().toList()) {
            due.due("rule 4: " + use.group(), LIBRARY.contains(use.group()) ? 1 : 0, 1);
        }
    }

    /** A row is reached by a place that was looked at, in these three alone; a divisor is a constant. */
    private void indexesAndDivisors() {
        for (Map.Entry<String, String> method : bodies.entrySet()) {
            boolean mayIndex = Set.of("at", "put", "sum").contains(method.getKey());
            boolean indexes = Pattern.compile("\\w\\[[^\\]]").matcher(method.getValue()).find();
            due.due("rule 7: an index in " + method.getKey(), indexes && !mayIndex ? 1 : 0, 0);
        }
        none("rule 7: a divisor", "[/%]=?\\s*(?![A-Z][A-Z_]+\\b|[1-9])\\S+");
        none("rules 6 and 7: a cast among classes", "\\([A-Z][a-z]\\w*\\) *\\w");
    }

    private void methods() {
        int declared = 0;
        for (Class<?> one : classes) {
            for (Method method : one.getDeclaredMethods()) {
                declared++;
                due.due("rule 11: parameters of " + method.getName(), method.getParameterCount() <= 7 ? 1 : 0, 1);
                due.due("this test reads " + method.getName(), bodies.containsKey(method.getName()) ? 1 : 0, 1);
            }
        }
        bodies.remove("ColdDepots");
        due.due("this test reads each method", bodies.size(), declared);
        for (Map.Entry<String, String> method : bodies.entrySet()) {
            due.due("rule 11: lines of " + method.getKey(), method.getValue().lines().count() <= 60 ? 1 : 0, 1);
            boolean makes = Pattern.compile("\\bnew\\b").matcher(method.getValue()).find();
            due.due("rule 12: an object made in " + method.getKey(), makes ? 1 : 0, 0);
        }
    }

    private void calls() {
        for (String name : bodies.keySet()) {
            due.due("rules 8 and 11: calls below " + name + ", 8 deep at most", depth(name, 0) <= 8 ? 1 : 0, 1);
        }
    }

    private int depth(String name, int above) {
        if (above > 20) {
            return above;
        }
        Set<String> called = new TreeSet<>();
        Pattern.compile("\\b(\\w+)\\(").matcher(bodies.get(name)).results().forEach(call -> called.add(call.group(1)));
        called.retainAll(bodies.keySet());
        int deepest = 0;
        for (String below : called) {
            deepest = Math.max(deepest, depth(below, above + 1));
        }
        return deepest + 1;
    }
}
