import java.lang.reflect.Constructor;
import java.lang.reflect.Field;
import java.lang.reflect.Method;
import java.lang.reflect.Modifier;
import java.nio.file.Files;
import java.nio.file.Path;
import java.util.ArrayList;
import java.util.Arrays;
import java.util.List;
import java.util.Map;
import java.util.Set;
import java.util.TreeMap;
import java.util.TreeSet;
import java.util.regex.Matcher;
import java.util.regex.Pattern;

/** The document's face, and those rules of LANGUAGE.md that words and members of the class can show. */
public final class LanguageTest {
    private static final Due due = new Due();

    public static void main(String[] args) throws Exception {
        face();
        headings();
        members();
        words();
        lengths();
        depths();
        callsMakeNothing();
        due.end();
    }

    private static void face() throws Exception {
        String doc = Files.readString(Path.of("../shared/DOC.md"));
        String code = doc.substring(doc.indexOf("```java"), doc.indexOf("```", doc.indexOf("```java") + 7));
        Set<String> told = new TreeSet<>();
        Matcher m = Pattern.compile("public (int|long) (\\w+)\\(([^)]*)\\);").matcher(code);
        while (m.find()) {
            told.add(m.group(1) + " " + m.group(2) + "(" + m.group(3).replaceAll(" \\w+(, |$)", "$1") + ")");
        }
        due.is("calls that the document tells", told.size(), 44);
        Set<String> had = new TreeSet<>();
        for (Method method : SupperLight.class.getDeclaredMethods()) {
            if (!Modifier.isPrivate(method.getModifiers())) {
                had.add(signature(method));
            }
        }
        for (String s : told) {
            due.is("the face has " + s, had.contains(s) ? 1 : 0, 1);
        }
        for (String s : had) {
            due.is("the document has " + s, told.contains(s) ? 1 : 0, 1);
        }
        Constructor<?>[] makers = SupperLight.class.getDeclaredConstructors();
        due.is("one constructor", makers.length, 1);
        due.is("its parameters", makers[0].getParameterCount(), 0);
        due.is("it is public", makers[0].getModifiers(), Modifier.PUBLIC);
        due.is("the class", SupperLight.class.getModifiers(), Modifier.PUBLIC | Modifier.FINAL);
    }

    /** Ahead of the calls stands what the document's interface says there, and they come in its order. */
    private static void headings() throws Exception {
        StringBuilder told = new StringBuilder();
        Matcher m = Pattern.compile("Ahead of the calls (.*?) the interface says: (---- .*)\\.")
            .matcher(Files.readString(Path.of("../shared/DOC.md")));
        int headings = 0;
        while (m.find()) {
            told.append(m.group(2)).append(": ").append(m.group(1).replace("`", "").replace(",", "")).append('\n');
            headings++;
        }
        due.is("headings that the document tells", headings, 9);
        StringBuilder had = new StringBuilder();
        m = Pattern.compile("(?m)^    (?:public (?:int|long) (\\w+)\\(|// (---- .*)$)").matcher(source());
        while (m.find()) {
            String heading = m.group(2);
            had.append(heading == null ? " " + m.group(1) : (had.length() > 0 ? "\n" : "") + heading + ":");
        }
        due.same("headings and calls", had.toString(), told + "---- what the calls share:");
    }

    private static String signature(Method method) {
        List<String> types = new ArrayList<>();
        for (Class<?> type : method.getParameterTypes()) {
            types.add(type.getName());
        }
        return method.getReturnType().getName() + " " + method.getName() + "(" + String.join(", ", types) + ")";
    }

    private static void members() {
        Set<String> faceNames = new TreeSet<>();
        for (Method method : SupperLight.class.getDeclaredMethods()) {
            if (Modifier.isPublic(method.getModifiers())) {
                faceNames.add(method.getName());
            }
        }
        List<Class<?>> classes = new ArrayList<>(Arrays.asList(SupperLight.class.getDeclaredClasses()));
        for (Class<?> inside : classes) {
            due.is(inside + " is static", Modifier.isStatic(inside.getModifiers()) ? 1 : 0, 1);
            due.is(inside + " isn't public", inside.getModifiers() & (Modifier.PUBLIC | Modifier.PROTECTED), 0);
        }
        classes.add(SupperLight.class);
        due.is("at most twelve classes", classes.size() <= 12 ? 1 : 0, 1);
        for (Class<?> c : classes) {
            int fields = 0;
            for (Field f : c.getDeclaredFields()) {
                boolean constant = Modifier.isStatic(f.getModifiers());
                due.is(f + " is final", !constant || Modifier.isFinal(f.getModifiers()) ? 1 : 0, 1);
                due.is(f + " is private", c != SupperLight.class || Modifier.isPrivate(f.getModifiers()) ? 1 : 0, 1);
                fields += constant ? 0 : 1;
            }
            due.is(c + " has at most twenty fields", fields <= 20 ? 1 : 0, 1);
            for (Method method : c.getDeclaredMethods()) {
                boolean ofFace = c == SupperLight.class && Modifier.isPublic(method.getModifiers());
                due.is(method + " bears no name of the face", !ofFace && faceNames.contains(method.getName()) ? 1 : 0, 0);
                due.is(method + " has at most seven parameters", method.getParameterCount() <= 7 ? 1 : 0, 1);
            }
        }
    }

    private static String source() throws Exception {
        return Files.readString(Path.of("src/main/java/SupperLight.java"));
    }

    /** Without what stands in comments. */
    private static String plainSource() throws Exception {
        return source().replaceAll("(?s)/\\*.*?\\*/", " ").replaceAll("//[^\n]*", " ");
    }

    private static void words() throws Exception {
        String code = plainSource();
        String[] barred = {"throw", "throws", "try", "catch", "finally", "synchronized", "assert", "package", "Object",
            "double", "float", "var", "Random", "Thread", "nanoTime", "currentTimeMillis", "native", "volatile",
            "hashCode", "toString", "goto", "protected", "Exception", "Error"};
        for (String word : barred) {
            due.is("no " + word, Pattern.compile("\\b" + word + "\\b").matcher(code).find() ? 1 : 0, 0);
        }
        String[] signs = {"->", "::", "static {", "@", "Exact(", "for (;;)", "while (true)"};
        for (String sign : signs) {
            due.is("no " + sign, code.contains(sign) ? 1 : 0, 0);
        }
        Matcher m = Pattern.compile("import ([\\w.*]+);").matcher(code);
        while (m.find()) {
            due.is("import " + m.group(1), m.group(1).equals("java.util.Arrays") ? 1 : 0, 1);
        }
        m = Pattern.compile("\\b(Arrays|System|Math|Integer|Long)\\.(\\w+)").matcher(code);
        List<String> free = List.of("Arrays.fill", "System.arraycopy", "Math.min", "Math.max", "Math.abs", "Integer.bitCount");
        while (m.find()) {
            due.is(m.group(), free.contains(m.group()) ? 1 : 0, 1);
        }
    }

    private static void lengths() throws Exception {
        for (String line : source().split("\n")) {
            due.is("a short line: " + line, line.length() <= 120 ? 1 : 0, 1);
        }
        int seen = 0;
        for (String body : methods().values()) {
            due.is(body.lines().findFirst().orElse("").trim() + " is short", body.lines().count() <= 60 ? 1 : 0, 1);
            seen++;
        }
        int had = 0;
        for (Class<?> c : SupperLight.class.getDeclaredClasses()) {
            had += c.getDeclaredMethods().length;
        }
        due.is("methods found in the source", seen, had + SupperLight.class.getDeclaredMethods().length);
    }

    /** The text of each method by its name; no two of them have one name, so that a name tells what is called. */
    private static Map<String, String> methods() throws Exception {
        Map<String, String> found = new TreeMap<>();
        Matcher m = Pattern.compile("(?ms)^( +)(?:public |private |static )*\\w+(?:\\[\\])? (?!SupperLight)(\\w+)\\([^()]*\\) \\{\n.*?^\\1\\}")
            .matcher(plainSource());
        while (m.find()) {
            due.is(m.group(2) + " is one method's name", found.containsKey(m.group(2)) ? 1 : 0, 0);
            found.put(m.group(2), m.group());
        }
        return found;
    }

    /** Rule 11: calls go at most eight deep, the library's counted; there is no recursion. */
    private static void depths() throws Exception {
        Map<String, String> methods = methods();
        for (Method method : SupperLight.class.getDeclaredMethods()) {
            if (Modifier.isPublic(method.getModifiers())) {
                due.is(method.getName() + " goes at most eight deep", depthOf(method.getName(), methods, 1) <= 8 ? 1 : 0, 1);
            }
        }
    }

    /** How deep calls stand open at most within a method that stands at a depth itself; 99 where there is recursion. */
    private static int depthOf(String name, Map<String, String> methods, int depth) {
        if (depth > 30) {
            return 99;
        }
        int deepest = depth;
        String body = methods.getOrDefault(name, "");
        Matcher call = Pattern.compile("(?<!new )\\b(\\w+)\\(").matcher(body.substring(body.indexOf('{') + 1));
        while (call.find()) {
            deepest = Math.max(deepest, depthOf(call.group(1), methods, depth + 1));
        }
        return deepest;
    }

    /** Rows are made in the constructor: calls make no objects, so all calls of a run fit into one room. */
    private static void callsMakeNothing() throws Exception {
        String code = source().replaceAll("(?s)/\\*.*?\\*/", " ");
        Matcher m = Pattern.compile("\\bnew \\w+").matcher(code);
        while (m.find()) {
            int line = code.lastIndexOf('\n', m.start());
            String made = code.substring(line + 1, code.indexOf('\n', m.start()));
            boolean inMaker = made.matches(" +(private )?final \\w+(\\[\\])? \\w+ = new .*")
                || made.matches(" +\\w+(\\[s\\])? = new .*") && m.start() < code.indexOf("// ---- the town");
            due.is("made in a constructor: " + made.trim(), inMaker ? 1 : 0, 1);
        }
    }
}
