import java.io.IOException;
import java.nio.file.Files;
import java.nio.file.Path;
import java.util.List;
import java.util.regex.Matcher;
import java.util.regex.Pattern;

/** What can be seen of LANGUAGE.md's rules in the text of the program alone; run it in the project's folder. */
public final class LanguageTest {
    private static final String[] NEVER = {
        "->", "::", "\\w+Exact\\(", "\\bfinally\\b", "\\bcatch\\b", "\\bsynchronized\\b", "\\bassert\\b",
        "\\bpackage\\b", "\\bprotected\\b", "\\brecord\\b", "\\bMath\\.(?!abs|max|min|floor)", "\\bSystem\\.(?!arraycopy)",
        "\\bvar\\b", "\\bObject\\b", "\\bClass\\b", "\\bRunnable\\b", "\" \\+", "\\+ \"", "\\bequals\\b",
        "\\bhashCode\\b", "\\btoString\\b", "\\bstatic (?!final)[\\w\\[\\]]+ \\w+( =|;)", "\\bstatic \\{"};

    public static void main(String[] args) throws IOException {
        List<String> lines = Files.readAllLines(Path.of("src/main/java/Stormcellar.java"));
        int classes = 0;
        int begin = 0;
        for (int i = 0; i < lines.size(); i++) {
            String line = lines.get(i);
            String code = line.replaceAll("^\\s*/?\\*.*|//.*", "");
            for (String never : NEVER) {
                Matcher found = Pattern.compile(never).matcher(code);
                Check.isFalse("line " + (i + 1) + " holds " + never, found.find());
            }
            for (char c : line.toCharArray()) {
                Check.isTrue("line " + (i + 1) + " holds plain signs alone", c >= 32 && c < 127);
            }
            if (code.contains(" class ")) {
                classes++;
            }
            if (code.matches("\\s+.*\\) ?(throws .*)?\\{") && !code.matches("\\s+(for|if|while|switch|\\}).*")) {
                begin = i;
            }
            if (code.matches(" {4}\\}| {8}\\}")) {
                Check.isTrue("the method that ends at line " + (i + 1) + " is short", i - begin < 60 || begin == 0);
                begin = 0;
            }
            if (code.startsWith("import")) {
                Check.isTrue(code, code.matches("import java\\.util\\.(Arrays|NoSuchElementException);"));
            }
        }
        Check.isTrue("some twelve classes at most", classes <= 12);
        Check.end();
    }
}
