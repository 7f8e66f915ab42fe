import java.net.URL;
import java.net.URLClassLoader;
import java.nio.file.Files;
import java.nio.file.Path;
import java.util.ArrayList;
import java.util.List;
import java.util.regex.Matcher;
import java.util.regex.Pattern;
import javax.tools.ToolProvider;

/** The example in README.md compiles, and each call in it answers the word or number behind it. */
public final class ReadmeTest {
    private static final Pattern ANSWERED =
            Pattern.compile("(coast\\.\\w+\\(.*\\)); +// (true|false|-?\\d+|[a-z])(:.*)?");

    private static final List<String> CALLS = new ArrayList<>();
    private static final List<String> DUE = new ArrayList<>();

    public static void main(String[] args) throws Exception {
        String text = Files.readString(Path.of("README.md"));
        int begin = text.indexOf("```java\n");
        int end = text.indexOf("```\n", begin + 1);
        Check.isTrue("README.md has an example", begin >= 0 && end > begin);
        for (String name : FaceTest.names()) {
            Check.isTrue("README.md tells of " + name, text.contains("`" + name + "`"));
        }
        String code = written(text.substring(begin + "```java\n".length(), end));
        Check.isTrue("the example tells answers", CALLS.size() >= 20);
        run(code);
        Check.end();
    }

    /** A class of the example's lines, which puts each answer that README.md tells into a row. */
    private static String written(String example) {
        StringBuilder code = new StringBuilder("public final class Example {\n");
        code.append("public static void run(java.util.List<String> got) {\n");
        for (String line : example.split("\n")) {
            Matcher found = ANSWERED.matcher(line);
            if (found.matches()) {
                CALLS.add(found.group(1));
                DUE.add(found.group(2));
                code.append("got.add(\"\" + ").append(found.group(1)).append(");\n");
            } else {
                code.append(line).append('\n');
            }
        }
        return code.append("}\n}\n").toString();
    }

    private static void run(String code) throws Exception {
        Path place = Files.createTempDirectory("readme");
        Path file = place.resolve("Example.java");
        Path compiled = place.resolve("Example.class");
        try {
            Files.writeString(file, code);
            String path = System.getProperty("java.class.path");
            int failed = ToolProvider.getSystemJavaCompiler()
                    .run(null, null, null, "-cp", path, "-d", place.toString(), file.toString());
            Check.is("the example compiles", failed, 0);
            if (failed == 0) {
                compare(place);
            }
        } finally {
            for (Path made : List.of(file, compiled, place)) {
                Files.deleteIfExists(made);
            }
        }
    }

    private static void compare(Path place) throws Exception {
        List<String> got = new ArrayList<>();
        URL[] places = {place.toUri().toURL()};
        try (URLClassLoader loader = new URLClassLoader(places, ReadmeTest.class.getClassLoader())) {
            loader.loadClass("Example").getMethod("run", List.class).invoke(null, got);
        }
        for (int i = 0; i < DUE.size(); i++) {
            Check.isText(CALLS.get(i), got.get(i), DUE.get(i));
        }
    }
}
