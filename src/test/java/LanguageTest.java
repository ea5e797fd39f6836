import java.io.IOException;
import java.io.PrintWriter;
import java.io.StringWriter;
import java.lang.reflect.Method;
import java.lang.reflect.Modifier;
import java.nio.file.Files;
import java.nio.file.Path;
import java.util.Arrays;
import java.util.HashMap;
import java.util.HashSet;
import java.util.Map;
import java.util.Set;
import java.util.TreeSet;
import java.util.regex.Matcher;
import java.util.regex.Pattern;
import java.util.spi.ToolProvider;

/** What can be seen of LANGUAGE.md in the text of the class; it is run from the root of the project. */
public final class LanguageTest extends Suite {
    public static void main(String[] args) {
        run(LanguageTest.class);
    }

    private static String source() throws IOException {
        return Files.readString(Path.of("src/main/java/ReconcilerHall.java"));
    }

    /** The source without comments and without what its texts say. */
    private static String code() throws IOException {
        return source().replaceAll("(?s)/\\*.*?\\*/", "").replaceAll("//[^\n]*", "").replaceAll("\"[^\"\n]*\"", "\"\"");
    }

    private static int count(String pattern, String text) {
        Matcher matcher = Pattern.compile(pattern).matcher(text);
        int count = 0;
        while (matcher.find()) {
            count++;
        }
        return count;
    }

    static void promise00_onlyPlainSigns() throws IOException {
        due(0, count("[^\\x0a\\x20-\\x7e]", source()));
    }

    static void promise00_nothingThatTheRulesLeaveOut() throws IOException {
        String[] patterns = {"\\bimport\\b", "\\bpackage\\b", "->", "::", "\\btry\\b", "\\bcatch\\b", "\\bfinally\\b", "@", "\\bassert\\b",
            "\\bsynchronized\\b", "\\bdouble\\b", "\\bfloat\\b", "\\bSystem\\.(?!arraycopy)", "Exact\\b", "\\bprotected\\b", "\"\" *\\+",
            "\\+ *\"\"", "\\bwhile\\b", "\\bvar\\b"};
        for (String pattern : patterns) {
            due(pattern + " 0", pattern + " " + count(pattern, code()));
        }
    }

    static void promise00_exceptionsOfTheDocumentAlone() throws IOException {
        due(count("\\bthrow\\b", code()),
            count("throw new (IllegalArgumentException|IllegalStateException|IndexOutOfBoundsException)\\(\"\"\\);", code()));
    }

    static void promise00_staticFieldsAreFinal() throws IOException {
        due(0, count("static (?!final|class|int\\[?\\]? ?\\w+\\(|boolean \\w+\\()", code().replace("abstract static class", "static class")));
    }

    static void promise00_fewClassesAndShortMethods() throws IOException {
        due(true, count("\\bclass\\b", code()) <= 12);
        int begin = 0;
        String[] lines = code().split("\n");
        for (int line = 0; line < lines.length; line++) {
            if (lines[line].matches("( {4}| {8})(public|private|final|abstract|static|boolean|int|void)\\b.*\\{")) {
                begin = line;
            }
            if (lines[line].matches("( {4}| {8})\\}") && !lines[begin].contains(" class ")) {
                due(true, line - begin <= 60);
            }
        }
    }

    /** All objects and arrays are made by constructors: what they call for it makes one array. */
    static void promise00_callsMakeNothingButExceptions() throws IOException {
        String rest = code().replaceAll("throw new", "throw");
        due(count("(= |return |\\(|, )new ", rest), count("\\bnew ", rest));
        for (String block : rest.split("\n\n")) {
            if (block.contains("new ")) {
                due(true, block.contains("(Store store") || Pattern.compile(" (ReconcilerHall|View|Store|Admission|emptyLog)\\(").matcher(block).find());
            }
        }
    }

    private static Set<Class<?>> classes() {
        Set<Class<?>> all = new HashSet<>(Arrays.asList(ReconcilerHall.class.getDeclaredClasses()));
        all.add(ReconcilerHall.class);
        return all;
    }

    /** Rules 1 and 11: names that the face has are not used again; few parameters, few fields. */
    static void promise00_namesParametersAndFields() {
        Set<String> face = new TreeSet<>();
        for (Method method : ReconcilerHall.class.getDeclaredMethods()) {
            if (Modifier.isPublic(method.getModifiers())) {
                face.add(method.getName());
            }
        }
        for (Class<?> one : classes()) {
            for (Method method : one.getDeclaredMethods()) {
                boolean isFace = one == ReconcilerHall.class && Modifier.isPublic(method.getModifiers());
                due(method + " false", method + " " + (!isFace && face.contains(method.getName())));
                due(true, method.getParameterCount() <= 7);
            }
            due(true, Arrays.stream(one.getDeclaredFields()).filter(field -> !Modifier.isStatic(field.getModifiers())).count() <= 20);
        }
    }

    /** Rule 11: calls go at most eight deep, the library's counted; by what javap tells, if there is one. */
    static void promise00_callsGoAtMostEightDeep() {
        Map<String, Set<String>> calls = new HashMap<>();
        for (Class<?> one : classes()) {
            readCalls(one, calls);
        }
        due(true, calls.isEmpty() || calls.containsKey("ReconcilerHall.turn"));
        for (String call : calls.keySet()) {
            due(call + " true", call + " " + (depthOf(call, calls, 0) <= 8));
        }
    }

    private static void readCalls(Class<?> one, Map<String, Set<String>> calls) {
        ToolProvider javap = ToolProvider.findFirst("javap").orElse(null);
        StringWriter text = new StringWriter();
        if (javap == null || javap.run(new PrintWriter(text), new PrintWriter(text), "-p", "-c", "-cp",
            System.getProperty("java.class.path"), one.getName()) != 0) {
            return;
        }
        Pattern begin = Pattern.compile("  [^ ].*?([\\w$]+)\\(.*;");
        Pattern call = Pattern.compile(".*invoke(?!special).*Method (?:([\\w/$]+)\\.)?(\\w+):.*");
        String from = "";
        for (String line : text.toString().split("\n")) {
            Matcher begun = begin.matcher(line);
            Matcher called = call.matcher(line);
            if (begun.matches()) {
                from = one.getName() + "." + begun.group(1);
                calls.putIfAbsent(from, new TreeSet<>());
            } else if (called.matches() && calls.containsKey(from)) {
                calls.get(from).add((called.group(1) == null ? one.getName() : called.group(1)) + "." + called.group(2));
            }
        }
    }

    /** How many calls are open at most; a call of a method that others override may come to any of these. */
    private static int depthOf(String call, Map<String, Set<String>> calls, int open) {
        due(true, open < 20);
        int deepest = 1;
        String name = call.substring(call.lastIndexOf('.'));
        for (String target : calls.keySet()) {
            boolean isSame = target.equals(call) || !calls.containsKey(call) && target.endsWith(name) && call.startsWith("ReconcilerHall")
                || target.endsWith(name) && (name.equals(".serve") || name.equals(".queueOthers"));
            for (String next : isSame ? calls.get(target) : Set.<String>of()) {
                deepest = Math.max(deepest, 1 + depthOf(next, calls, open + 1));
            }
        }
        return deepest;
    }
}
