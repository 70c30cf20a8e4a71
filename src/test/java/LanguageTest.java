import java.io.IOException;
import java.nio.file.Files;
import java.nio.file.Path;
import java.util.List;
import java.util.regex.Matcher;
import java.util.regex.Pattern;

/** What can be seen of LANGUAGE.md in the source's words; it is run from the project's folder. */
final class LanguageTest {
    private static final Path SOURCE = Path.of("src/main/java/CashDeriver.java");
    private static final List<String> FORBIDDEN = List.of("->", "::", "\\bcatch\\b", "\\btry\\b", "\\bfinally\\b",
        "\\bsynchronized\\b", "\\bassert\\b", "\\bvolatile\\b", "\\btransient\\b", "\\bnative\\b", "\\bstatic\\s*\\{",
        "\\bvar\\b", "Exact\\(", "\\bSystem\\.(?!arraycopy)", "\\bThread\\b", "\\bObject\\b", "\\bdouble\\b", "\\bfloat\\b",
        "\\bequals\\b", "\\bhashCode\\b", "\\btoString\\b", "@", "\\bpackage\\b", "\\bprotected\\b");
    private static final Pattern METHOD = Pattern.compile(
        "(?m)^( +)(?!return|throw|new|else)[\\w\\[\\] ]*\\b\\w+\\(([^()]*)\\)(?: throws \\w+)? \\{\\n(.*?)^\\1\\}", Pattern.DOTALL);

    public static void main(String[] args) throws IOException {
        String source = Files.readString(SOURCE);
        String code = source.replaceAll("\"[^\"\n]*\"", "\"\"").replaceAll("(?s)/\\*.*?\\*/", "").replaceAll("//[^\n]*", "");
        for (int n = 0; n < source.length(); n++) {
            if (source.charAt(n) > 126 || source.charAt(n) < 32 && source.charAt(n) != '\n') {
                Checks.complain("a sign that is not plain at " + n);
            }
        }
        for (String forbidden : FORBIDDEN) {
            Checks.due("uses of " + forbidden, count(code, forbidden), 0);
        }
        Checks.due("imports", count(code, "\\bimport\\b"), 1);
        Checks.due("imports of NoSuchElementException", count(code, "import java.util.NoSuchElementException;"), 1);
        Checks.due("public classes", count(code, "public final class CashDeriver \\{"), 1);
        Checks.due("classes, twelve at most", count(code, "\\b(class|interface|enum|record)\\s+\\w+") <= 12, true);
        Checks.due("loops without an end", count(code, "while \\(true\\)|for \\(;;\\)"), 0);
        checkThrows(code);
        checkMethods(code);
        Checks.finish();
    }

    private static int count(String text, String pattern) {
        Matcher matcher = Pattern.compile(pattern).matcher(text);
        int found = 0;
        while (matcher.find()) {
            found++;
        }
        return found;
    }

    private static void checkThrows(String code) {
        Checks.due("throws are of the document's exception alone",
            count(code, "\\bthrow\\b"), count(code, "throw new NoSuchElementException\\(\"\"\\);"));
    }

    private static void checkMethods(String code) {
        Matcher matcher = METHOD.matcher(code);
        int seen = 0;
        while (matcher.find()) {
            if (matcher.group(1).length() > 8) {
                continue;
            }
            seen++;
            String head = matcher.group().lines().findFirst().orElse("").trim();
            Checks.due("lines of " + head + ": sixty at most", matcher.group(3).lines().count() <= 60, true);
            Checks.due("parameters of " + head + ": seven at most", matcher.group(2).split(",").length <= 7, true);
        }
        Checks.due("methods are seen", seen > 60, true);
    }
}
