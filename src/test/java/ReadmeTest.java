import java.io.IOException;
import java.net.URL;
import java.net.URLClassLoader;
import java.nio.file.Files;
import java.nio.file.Path;
import java.util.List;
import java.util.Set;
import java.util.TreeSet;
import java.util.regex.Matcher;
import java.util.regex.Pattern;
import java.util.stream.Collectors;
import java.util.stream.Stream;
import javax.tools.JavaCompiler;
import javax.tools.ToolProvider;

/** What README.md says is so: its examples, its tables of calls and findings, its list of tests. */
public final class ReadmeTest {
    private static final Due due = new Due();
    private static final Pattern ANSWERED =
        Pattern.compile("(?m)^(int \\w+ = )?(town\\.\\w+\\(.*\\)); +// (-?\\d+): .*$");

    public static void main(String[] args) throws Exception {
        String readme = Files.readString(Path.of("README.md"));
        String document = Files.readString(Path.of("../shared/DOC.md"));
        examples(readme);
        calls(readme, document);
        findings(readme, document);
        tests(readme);
        due.end();
    }

    /** The compiled examples report here; public, since they come from another loader. */
    public static long answers(String call, long got, long want) {
        due.is("README: " + call, got, want);
        return got;
    }

    private static void examples(String readme) throws Exception {
        StringBuilder bodies = new StringBuilder();
        int blocks = 0;
        Matcher block = Pattern.compile("(?s)```java\n(.*?)```").matcher(readme);
        while (block.find()) {
            bodies.append("{\n").append(checked(block.group(1))).append("}\n");
            blocks++;
        }
        due.is("examples in README", blocks, 2);
        Path folder = Files.createTempDirectory("readme");
        try {
            Path source = folder.resolve("ReadmeExamples.java");
            Files.writeString(source, "public class ReadmeExamples { public static void main(String[] a) {\n" + bodies + "} }\n");
            runExamples(folder, source);
        } finally {
            empty(folder);
        }
    }

    /** Each line with an answer behind it asks whether it is that one. */
    private static String checked(String code) {
        String asking = ANSWERED.matcher(code).replaceAll(m -> Matcher.quoteReplacement(
            (m.group(1) == null ? "" : m.group(1) + "(int) ")
            + "ReadmeTest.answers(\"" + m.group(2).replace("\"", "\\\"") + "\", " + m.group(2) + ", " + m.group(3) + "L);"));
        for (String line : asking.split("\n")) {
            due.is("README: no answer behind '" + line + "'", line.startsWith("town.") ? 1 : 0, 0);
        }
        return asking;
    }

    private static void runExamples(Path folder, Path source) throws Exception {
        String path = System.getProperty("java.class.path");
        JavaCompiler compiler = ToolProvider.getSystemJavaCompiler();
        int failed = compiler.run(null, null, null, "-cp", path, "-d", folder.toString(), source.toString());
        due.is("README's examples compile", failed, 0);
        if (failed == 0) {
            int before = due.asked();
            try (URLClassLoader loader = new URLClassLoader(new URL[] {folder.toUri().toURL()})) {
                loader.loadClass("ReadmeExamples").getMethod("main", String[].class).invoke(null, (Object) new String[0]);
            }
            due.is("answers in README's examples", due.asked() - before, 19);
        }
    }

    private static void empty(Path folder) throws IOException {
        try (Stream<Path> files = Files.list(folder)) {
            for (Path file : files.collect(Collectors.toList())) {
                Files.delete(file);
            }
        }
        Files.delete(folder);
    }

    /** The table's rows are the document's calls, in its order, under its headings. */
    private static void calls(String readme, String document) {
        StringBuilder want = new StringBuilder();
        Matcher heading = Pattern.compile("Ahead of the calls (.*?) the interface says: ---- (.*)\\.").matcher(document);
        while (heading.find()) {
            want.append(heading.group(2)).append('\n');
            for (String call : heading.group(1).replace("`", "").split(", ")) {
                want.append(call).append(parameters(call, document)).append('\n');
            }
        }
        StringBuilder got = new StringBuilder();
        Matcher row = Pattern.compile("(?m)^\\| (?:`(\\w+\\(.*?\\))`|\\*\\*(.*?)\\*\\*) \\|").matcher(readme);
        while (row.find()) {
            got.append(row.group(1) == null ? row.group(2) : row.group(1)).append('\n');
        }
        due.is("rows of calls and headings", got.toString().split("\n").length, 44 + 9);
        due.same("README's calls", got.toString(), want.toString());
    }

    private static String parameters(String call, String document) {
        Matcher m = Pattern.compile("public (?:int|long) " + call + "\\((.*?)\\);").matcher(document);
        return m.find() ? "(" + m.group(1).replaceAll("(int|long) ", "") + ")" : " isn't in the face";
    }

    private static void findings(String readme, String document) {
        int at = 0;
        for (String name : List.of("BEYOND", "FULL", "KIND", "NONE", "STATE", "MISSING", "SIZE")) {
            int number = -1000000001 - at;
            due.is("document: " + name, document.contains(number + " " + name) ? 1 : 0, 1);
            due.is("README: " + name, readme.contains("| " + number + " | " + name + " | " + at + " |") ? 1 : 0, 1);
            at++;
        }
    }

    private static void tests(String readme) throws IOException {
        Set<String> had = new TreeSet<>();
        try (Stream<Path> files = Files.list(Path.of("src/test/java"))) {
            files.map(f -> f.getFileName().toString()).filter(f -> f.endsWith("Test.java"))
                .forEach(f -> had.add(f.replace(".java", "")));
        }
        Set<String> told = new TreeSet<>();
        Matcher m = Pattern.compile("(?m)^- `(\\w+)`:").matcher(readme);
        while (m.find()) {
            told.add(m.group(1));
        }
        due.same("tests that README lists", told.toString(), had.toString());
    }
}
