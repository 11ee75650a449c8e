import java.io.IOException;
import java.nio.file.Files;
import java.nio.file.Path;
import java.util.regex.Matcher;
import java.util.regex.Pattern;

/**
 * The document's own words. A test tells which of them it holds to: they have to stand there, and in
 * the end there may be none, of the Terms and of the 42 promises, that no test holds to.
 */
final class Doc {
    private static final Path PLACE = Path.of("../shared/DOC.md");
    private static final int TERMS = 0;
    private static final int PROMISES = 42;
    /** The Terms at 0, each promise at its number. */
    private static final String[] texts = new String[PROMISES + 1];
    private static final boolean[][] held = new boolean[PROMISES + 1][];
    private static int askedAhead = -1;

    private Doc() {
    }

    static void open() throws IOException {
        String doc = Files.readString(PLACE).replace("\r", "");
        String use = between(doc, "\nAn object is used", "\n## ");
        texts[TERMS] = plain("An object is used" + use + between(doc, "\n## Terms\n", "\n## Promise 1:").replace("```text", " "));
        for (int n = 1; n <= PROMISES; n++) {
            String whole = between(doc, "\n## Promise " + n + ":", "\n## ");
            Matcher words = Pattern.compile("`[^`]*`:(.*)", Pattern.DOTALL).matcher(whole);
            texts[n] = words.find() ? plain(words.group(1)) : "";
            Kit.due("words of promise " + n, texts[n].isEmpty(), false);
        }
        for (int n = 0; n <= PROMISES; n++) {
            held[n] = new boolean[texts[n].length()];
        }
    }

    private static String between(String text, String from, String to) {
        int start = text.indexOf(from);
        if (start < 0) {
            return "";
        }
        int end = text.indexOf(to, start + from.length());
        return text.substring(start + from.length(), end < 0 ? text.length() : end);
    }

    private static String plain(String text) {
        return text.replace("```", " ").replaceAll("==== \\d\\.", " ").replaceAll("\\s+", " ").trim();
    }

    /** The answers asked from here on hold to these words, of the promise itself or of the Terms that it rests on. */
    static void holds(int promise, String... sentences) {
        endLatest();
        Kit.holdTo("Promise " + promise + " (\"" + String.join("\", \"", sentences) + "\"): ");
        for (String words : sentences) {
            boolean stands = mark(promise, words) | mark(TERMS, words);
            Kit.due("these words stand in the document: " + words + ": that", stands, true);
        }
        askedAhead = Kit.asked();
    }

    private static void endLatest() {
        if (askedAhead >= 0) {
            Kit.due("answers are asked: that", Kit.asked() > askedAhead, true);
        }
        Kit.holdTo("");
    }

    private static boolean mark(int section, String words) {
        boolean found = false;
        int at = texts[section].indexOf(words);
        while (at >= 0) {
            found = true;
            for (int i = at; i < at + words.length(); i++) {
                held[section][i] = true;
            }
            at = texts[section].indexOf(words, at + 1);
        }
        return found;
    }

    /** Tells the words that no test holds to. */
    static void close() {
        endLatest();
        for (int n = 0; n <= PROMISES; n++) {
            String where = n == TERMS ? "the Terms" : "promise " + n;
            StringBuilder open = new StringBuilder();
            for (int i = 0; i < texts[n].length(); i++) {
                char c = texts[n].charAt(i);
                boolean word = Character.isLetterOrDigit(c) && !held[n][i];
                if (word || open.length() > 0 && !held[n][i]) {
                    open.append(c);
                }
                if (open.length() > 0 && (held[n][i] || i + 1 == texts[n].length())) {
                    Kit.due("a test holds to \"" + open + "\" of " + where + ": that", false, true);
                    open.setLength(0);
                }
            }
        }
    }
}
