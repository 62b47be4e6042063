import java.lang.reflect.Constructor;
import java.lang.reflect.Field;
import java.lang.reflect.Method;
import java.lang.reflect.Modifier;
import java.nio.file.Files;
import java.nio.file.Path;
import java.util.ArrayList;
import java.util.Arrays;
import java.util.List;
import java.util.Set;
import java.util.TreeSet;
import java.util.regex.Matcher;
import java.util.regex.Pattern;

/** The document's face, and those rules of LANGUAGE.md that words and members of the class can show. */
public final class LanguageTest {
    private static final Due due = new Due();

    public static void main(String[] args) throws Exception {
        face();
        members();
        words();
        lengths();
        callsMakeNothing();
        due.end();
    }

    private static void face() throws Exception {
        String doc = Files.readString(Path.of("../shared/DOC.md"));
        String code = doc.substring(doc.indexOf("```java"), doc.indexOf("```", doc.indexOf("```java") + 7));
        Set<String> told = new TreeSet<>();
        Matcher m = Pattern.compile("public (int|long) (\\w+)\\(([^)]*)\\);").matcher(code);
        while (m.find()) {
            told.add(m.group(1) + " " + m.group(2) + "(" + m.group(3).replaceAll(" \\w+(, |$)", "$1") + ")");
        }
        due.is("calls that the document tells", told.size(), 44);
        Set<String> had = new TreeSet<>();
        for (Method method : SupperLight.class.getDeclaredMethods()) {
            if (!Modifier.isPrivate(method.getModifiers())) {
                had.add(signature(method));
            }
        }
        for (String s : told) {
            due.is("the face has " + s, had.contains(s) ? 1 : 0, 1);
        }
        for (String s : had) {
            due.is("the document has " + s, told.contains(s) ? 1 : 0, 1);
        }
        Constructor<?>[] makers = SupperLight.class.getDeclaredConstructors();
        due.is("one constructor", makers.length, 1);
        due.is("its parameters", makers[0].getParameterCount(), 0);
        due.is("it is public", makers[0].getModifiers(), Modifier.PUBLIC);
        due.is("the class", SupperLight.class.getModifiers(), Modifier.PUBLIC | Modifier.FINAL);
    }

    private static String signature(Method method) {
        List<String> types = new ArrayList<>();
        for (Class<?> type : method.getParameterTypes()) {
            types.add(type.getName());
        }
        return method.getReturnType().getName() + " " + method.getName() + "(" + String.join(", ", types) + ")";
    }

    private static void members() {
        Set<String> faceNames = new TreeSet<>();
        for (Method method : SupperLight.class.getDeclaredMethods()) {
            if (Modifier.isPublic(method.getModifiers())) {
                faceNames.add(method.getName());
            }
        }
        List<Class<?>> classes = new ArrayList<>(Arrays.asList(SupperLight.class.getDeclaredClasses()));
        for (Class<?> inside : classes) {
            due.is(inside + " is static", Modifier.isStatic(inside.getModifiers()) ? 1 : 0, 1);
            due.is(inside + " isn't public", inside.getModifiers() & (Modifier.PUBLIC | Modifier.PROTECTED), 0);
        }
        classes.add(SupperLight.class);
        due.is("at most twelve classes", classes.size() <= 12 ? 1 : 0, 1);
        for (Class<?> c : classes) {
            int fields = 0;
            for (Field f : c.getDeclaredFields()) {
                boolean constant = Modifier.isStatic(f.getModifiers());
                due.is(f + " is final", !constant || Modifier.isFinal(f.getModifiers()) ? 1 : 0, 1);
                due.is(f + " is private", c != SupperLight.class || Modifier.isPrivate(f.getModifiers()) ? 1 : 0, 1);
                fields += constant ? 0 : 1;
            }
            due.is(c + " has at most twenty fields", fields <= 20 ? 1 : 0, 1);
            for (Method method : c.getDeclaredMethods()) {
                boolean ofFace = c == SupperLight.class && Modifier.isPublic(method.getModifiers());
                due.is(method + " bears no name of the face", !ofFace && faceNames.contains(method.getName()) ? 1 : 0, 0);
                due.is(method + " has at most seven parameters", method.getParameterCount() <= 7 ? 1 : 0, 1);
            }
        }
    }

    private static String source() throws Exception {
        return Files.readString(Path.of("src/main/java/SupperLight.java"));
    }

    private static void words() throws Exception {
        String code = source().replaceAll("(?s)/\\*.*?\\*/", " ").replaceAll("//[^\n]*", " ");
        String[] barred = {"throw", "throws", "try", "catch", "finally", "synchronized", "assert", "package", "Object",
            "double", "float", "var", "Random", "Thread", "nanoTime", "currentTimeMillis", "native", "volatile",
            "hashCode", "toString", "goto", "protected", "Exception", "Error"};
        for (String word : barred) {
            due.is("no " + word, Pattern.compile("\\b" + word + "\\b").matcher(code).find() ? 1 : 0, 0);
        }
        String[] signs = {"->", "::", "static {", "@", "Exact(", "for (;;)", "while (true)"};
        for (String sign : signs) {
            due.is("no " + sign, code.contains(sign) ? 1 : 0, 0);
        }
        Matcher m = Pattern.compile("import ([\\w.*]+);").matcher(code);
        while (m.find()) {
            due.is("import " + m.group(1), m.group(1).equals("java.util.Arrays") ? 1 : 0, 1);
        }
        m = Pattern.compile("\\b(Arrays|System|Math|Integer|Long)\\.(\\w+)").matcher(code);
        List<String> free = List.of("Arrays.fill", "System.arraycopy", "Math.min", "Math.max", "Math.abs", "Integer.bitCount");
        while (m.find()) {
            due.is(m.group(), free.contains(m.group()) ? 1 : 0, 1);
        }
    }

    private static void lengths() throws Exception {
        String[] lines = source().split("\n");
        int start = -1;
        for (int i = 0; i < lines.length; i++) {
            if (lines[i].matches(" +(public |private |static )*\\w+(\\[\\])? \\w+\\(.*\\) \\{") && !lines[i].contains(" new ")
                && !lines[i].matches(" +(if|for|while|switch|else|return) .*")) {
                start = i;
            }
            if (start >= 0 && lines[i].equals(lines[start].replaceAll("\\S.*", "}"))) {
                due.is(lines[start].trim() + " is short", i - start < 60 ? 1 : 0, 1);
                start = -1;
            }
            due.is("line " + (i + 1) + " is short", lines[i].length() <= 120 ? 1 : 0, 1);
        }
    }

    /** Rows are made in the constructor: calls make no objects, so all calls of a run fit into one room. */
    private static void callsMakeNothing() throws Exception {
        String code = source().replaceAll("(?s)/\\*.*?\\*/", " ");
        Matcher m = Pattern.compile("\\bnew \\w+").matcher(code);
        while (m.find()) {
            int line = code.lastIndexOf('\n', m.start());
            String made = code.substring(line + 1, code.indexOf('\n', m.start()));
            boolean inMaker = made.matches(" +(private )?final \\w+(\\[\\])? \\w+ = new .*")
                || made.matches(" +\\w+(\\[s\\])? = new .*") && m.start() < code.indexOf("// ---- the town");
            due.is("made in a constructor: " + made.trim(), inMaker ? 1 : 0, 1);
        }
    }
}
