import java.io.IOException;
import java.nio.file.Files;
import java.nio.file.Path;
import java.util.ArrayList;
import java.util.List;

/** The document's sentences, and which of them have a test of their own. */
final class Book {
    static final int TERMS = 0;
    private static final int PROMISES = 45;

    private final String[] sections = new String[PROMISES + 1];
    private final boolean[][] tested = new boolean[PROMISES + 1][];
    private final Due due = new Due();
    private final List<String> sentences = new ArrayList<>();
    private String open = "";
    private int askedAtOpening = 0;

    Book(Path document) throws IOException {
        String text = Files.readString(document);
        sections[TERMS] = plain(between(text, "## Terms", "Ahead of the calls `bowl`"));
        for (int promise = 1; promise <= PROMISES; promise++) {
            String heading = "## Promise " + promise + ":";
            String next = promise < PROMISES ? "## Promise " + (promise + 1) + ":" : "## Not promised";
            sections[promise] = plain(withoutSignature(between(text, heading, next)));
        }
        for (int i = 0; i <= PROMISES; i++) {
            tested[i] = new boolean[sections[i].length()];
        }
    }

    private static String between(String text, String start, String end) {
        int from = text.indexOf(start);
        int to = text.indexOf(end);
        if (from < 0 || to < from) {
            throw new IllegalStateException("the document has no '" + start + "' ahead of '" + end + "'");
        }
        return text.substring(from + start.length(), to);
    }

    /** What stands behind the heading's name and the call's face. */
    private static String withoutSignature(String section) {
        return section.replaceFirst("(?s)^.*?`[^`]*`:", "");
    }

    private static String plain(String text) {
        return text.replace("```text", " ").replace("```", " ").replaceAll("(?m)^[123]\\. ", " ")
            .replaceAll("\\s+", " ").trim();
    }

    /** The runs that follow test these words of the document. */
    void says(int section, String words) {
        close();
        String quote = plain(words);
        open = (section == TERMS ? "terms" : "promise " + section) + " '" + quote + "'";
        int at = sections[section].indexOf(quote);
        due.is(open + " stands in the document", at >= 0 ? 1 : 0, 1);
        for (int i = at; at >= 0 && i < at + quote.length(); i++) {
            tested[section][i] = true;
        }
        due.is(open + " is tested in one place only", sentences.contains(open) ? 1 : 0, 0);
        sentences.add(open);
        askedAtOpening = due.asked();
    }

    /** Calls on a new object, a line each or with commas between; see Script for what a call looks like. */
    void run(String lines) {
        new Script(lines, due, open).runAll();
    }

    /** A text that is no night, told on a new object. */
    void fault(String text, int place) {
        fault("", text, place);
    }

    /** A text that is no night, told where there is something already. */
    void fault(String before, String text, int place) {
        run(before + "\ntape " + text + "|\nnight = " + (-1 - place) + "\ncount 2 = 0\nstatus -1 = 0");
    }

    private void close() {
        if (!open.isEmpty()) {
            due.is(open + " has a test", due.asked() > askedAtOpening ? 1 : 0, 1);
        }
    }

    void end() {
        close();
        for (int i = 0; i <= PROMISES; i++) {
            due.is("untested in section " + i + ": '" + untested(i) + "'", untested(i).isEmpty() ? 1 : 0, 1);
        }
        System.out.println(sentences.size() + " sentences");
        due.end();
    }

    private String untested(int section) {
        StringBuilder left = new StringBuilder();
        for (int i = 0; i < tested[section].length; i++) {
            char sign = sections[section].charAt(i);
            boolean open = !tested[section][i] && (Character.isLetterOrDigit(sign) || left.length() > 0);
            left.append(open ? String.valueOf(sign) : "");
        }
        return left.toString().matches("[^A-Za-z0-9]*") ? "" : left.toString();
    }
}
