import java.io.IOException;
import java.nio.charset.StandardCharsets;
import java.nio.file.Files;
import java.nio.file.Path;
import java.util.ArrayList;
import java.util.List;

/**
 * The words of ../shared/DOC.md, heading by heading, and which of them are quoted by a test. Words
 * that no test quotes are told at the end, so that no sentence of the document is passed over.
 */
final class Doc {
    private static final Path PATH = Path.of("../shared/DOC.md");
    private static final List<Doc> ALL = read();
    private static Doc current = null;

    private final String heading;
    private final StringBuilder words = new StringBuilder();
    private boolean[] quoted;

    private Doc(String heading) {
        this.heading = heading;
    }

    private static List<Doc> read() {
        List<Doc> all = new ArrayList<>();
        if (!Files.exists(PATH)) {
            System.out.println(PATH + " is not here: the quotes are not looked up");
            return all;
        }
        Doc latest = new Doc("the title");
        for (String line : lines()) {
            if (line.startsWith("## ") || line.matches("[0-9]\\. [A-Z ]+")) {
                latest = new Doc(line.replaceFirst("^## ", ""));
                all.add(latest);
            } else if (!line.startsWith("```")) {
                latest.words.append(' ').append(line.trim());
            }
        }
        for (Doc one : all) {
            one.quoted = new boolean[one.words.length()];
        }
        return all;
    }

    private static List<String> lines() {
        try {
            return Files.readAllLines(PATH, StandardCharsets.UTF_8);
        } catch (IOException e) {
            throw new IllegalStateException("cannot read " + PATH, e);
        }
    }

    /** The quotes that follow stand under this heading, or one that begins with it and a colon. */
    static void open(String heading) {
        for (Doc one : ALL) {
            if (one.heading.equals(heading) || one.heading.startsWith(heading + ":")) {
                current = one;
                return;
            }
        }
        Check.isTrue("the document has the heading " + heading, ALL.isEmpty());
    }

    /** Marks words of the document; of words that stand there twice those not yet quoted. */
    static void quote(String what) {
        if (ALL.isEmpty()) {
            return;
        }
        int found = current.words.indexOf(what);
        while (found >= 0 && current.quoted[found] && current.words.indexOf(what, found + 1) > 0) {
            found = current.words.indexOf(what, found + 1);
        }
        Check.isTrue("under " + current.heading + " stands: " + what, found >= 0);
        for (int k = 0; found >= 0 && k < what.length(); k++) {
            current.quoted[found + k] = true;
        }
    }

    static void quoteAll() {
        quote(current == null ? "" : current.words.toString());
    }

    /** Tells what no test has quoted. */
    static void end() {
        for (Doc one : ALL) {
            StringBuilder rest = new StringBuilder();
            for (int k = 0; k < one.quoted.length; k++) {
                rest.append(one.quoted[k] ? '\n' : one.words.charAt(k));
            }
            for (String stretch : rest.toString().split("\n+")) {
                Check.isTrue("a test for the words under " + one.heading + ": " + stretch,
                        !stretch.matches(".*[A-Za-z0-9].*"));
            }
        }
    }
}
