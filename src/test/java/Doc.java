import java.io.IOException;
import java.nio.file.Files;
import java.nio.file.Path;
import java.util.regex.Matcher;
import java.util.regex.Pattern;

/**
 * The document's sentences: whether a quote stands under its heading, and what no quote covers.
 * Where there is no document the calls are tested all the same, the quotes are not.
 */
final class Doc {
    static final int TERMS = 0;
    static final int PROMISES = 29;
    private static final Path FILE = Path.of("../shared/DOC.md");

    private final boolean isThere;
    private final String face;
    private final String[] heads = new String[PROMISES + 1];
    private final String[] texts = new String[PROMISES + 1];
    private final boolean[][] covered = new boolean[PROMISES + 1][];

    Doc() throws IOException {
        isThere = Files.exists(FILE);
        String all = isThere ? Files.readString(FILE) : "";
        texts[TERMS] = plain(between(all, "## What it is\n", "\n## ") + " " + between(all, "## Terms\n", "\n## "));
        face = plain(between(all, "## The public face\n", "\n## "));
        for (int p = 1; p <= PROMISES; p++) {
            String told = between(all, "## Promise " + p + ":", "\n## ");
            heads[p] = plain(told.replaceFirst("(?s)^[^`]*`([^`]*)`:.*", "$1"));
            texts[p] = plain(told.replaceFirst("(?s)^.*?`[^`]*`:", ""));
        }
        for (int p = 0; p <= PROMISES; p++) {
            covered[p] = new boolean[texts[p].length()];
        }
    }

    /** Marks the first place of the quote under its heading as covered; false if there is none. */
    boolean cover(int promise, String quote) {
        int from = texts[promise].indexOf(quote);
        for (int i = from; i >= 0 && i < from + quote.length(); i++) {
            covered[promise][i] = true;
        }
        return from >= 0 || !isThere;
    }

    /** Whether "The public face" is just this class, word for word. */
    boolean showsFace(String declaration) {
        return !isThere || face.equals(declaration);
    }

    /** Whether a promise is told of this constructor or method. */
    boolean tellsOf(int promise, String head) {
        return !isThere || heads[promise].equals(head);
    }

    /** The words of a promise, or of "What it is" and the Terms, that stand in no quote. */
    String left(int promise) {
        StringBuilder left = new StringBuilder();
        for (int i = 0; i < texts[promise].length(); i++) {
            left.append(covered[promise][i] ? ' ' : texts[promise].charAt(i));
        }
        Matcher words = Pattern.compile("\\S*[A-Za-z0-9]\\S*").matcher(left);
        return words.results().map(word -> word.group()).reduce("", (a, b) -> a + " " + b).trim();
    }

    private static String between(String all, String head, String tail) {
        int from = all.indexOf(head);
        if (from < 0) {
            return "";
        }
        int to = all.indexOf(tail, from + head.length());
        return all.substring(from + head.length(), to < 0 ? all.length() : to);
    }

    private static String plain(String text) {
        return text.replaceAll("```(text|java)?", " ").replaceAll("\\s+", " ").trim();
    }
}
