import java.io.IOException;
import java.nio.file.Files;
import java.nio.file.Path;
import java.util.regex.Matcher;
import java.util.regex.Pattern;

/** What can be seen of LANGUAGE.md in the text of the class; it is run from the root of the project. */
public final class LanguageTest extends Suite {
    public static void main(String[] args) {
        run(LanguageTest.class);
    }

    private static String source() throws IOException {
        return Files.readString(Path.of("src/main/java/ReconcilerHall.java"));
    }

    /** The source without comments and without what its texts say. */
    private static String code() throws IOException {
        return source().replaceAll("(?s)/\\*.*?\\*/", "").replaceAll("//[^\n]*", "").replaceAll("\"[^\"\n]*\"", "\"\"");
    }

    private static int count(String pattern, String text) {
        Matcher matcher = Pattern.compile(pattern).matcher(text);
        int count = 0;
        while (matcher.find()) {
            count++;
        }
        return count;
    }

    static void promise00_onlyPlainSigns() throws IOException {
        due(0, count("[^\\x0a\\x20-\\x7e]", source()));
    }

    static void promise00_nothingThatTheRulesLeaveOut() throws IOException {
        String[] patterns = {"\\bimport\\b", "\\bpackage\\b", "->", "::", "\\btry\\b", "\\bcatch\\b", "\\bfinally\\b", "@", "\\bassert\\b",
            "\\bsynchronized\\b", "\\bdouble\\b", "\\bfloat\\b", "\\bSystem\\.(?!arraycopy)", "Exact\\b", "\\bprotected\\b", "\"\" *\\+",
            "\\+ *\"\"", "\\bwhile\\b", "\\bvar\\b"};
        for (String pattern : patterns) {
            due(pattern + " 0", pattern + " " + count(pattern, code()));
        }
    }

    static void promise00_exceptionsOfTheDocumentAlone() throws IOException {
        due(count("\\bthrow\\b", code()),
            count("throw new (IllegalArgumentException|IllegalStateException|IndexOutOfBoundsException)\\(\"\"\\);", code()));
    }

    static void promise00_staticFieldsAreFinal() throws IOException {
        due(0, count("static (?!final|class|int\\[?\\]? ?\\w+\\(|boolean \\w+\\()", code().replace("abstract static class", "static class")));
    }

    static void promise00_fewClassesAndShortMethods() throws IOException {
        due(true, count("\\bclass\\b", code()) <= 12);
        int begin = 0;
        String[] lines = code().split("\n");
        for (int line = 0; line < lines.length; line++) {
            if (lines[line].matches("( {4}| {8})(public|private|final|abstract|static|boolean|int|void)\\b.*\\{")) {
                begin = line;
            }
            if (lines[line].matches("( {4}| {8})\\}") && !lines[begin].contains(" class ")) {
                due(true, line - begin <= 60);
            }
        }
    }

    /** All objects and arrays are made by constructors: what they call for it makes one array. */
    static void promise00_callsMakeNothingButExceptions() throws IOException {
        String rest = code().replaceAll("throw new", "throw");
        due(count("(= |return |\\(|, )new ", rest), count("\\bnew ", rest));
        for (String block : rest.split("\n\n")) {
            if (block.contains("new ")) {
                due(true, block.contains("(Store store") || Pattern.compile(" (ReconcilerHall|View|Store|Admission|emptyLog)\\(").matcher(block).find());
            }
        }
    }
}
