import java.io.IOException;
import java.nio.charset.StandardCharsets;
import java.nio.file.Files;
import java.nio.file.Path;
import java.util.ArrayList;
import java.util.List;
import java.util.regex.Matcher;
import java.util.regex.Pattern;

/** The document's own words: which of its clauses a test has quoted, and which none has. */
final class Document {
    /** A clause ends at a semicolon or at a full stop; the two dots of '0 .. 3' are none. */
    private static final Pattern CLAUSE = Pattern.compile(".+?(?:;|(?<![. ])\\.(?!\\S)|$)", Pattern.DOTALL);

    private static final int ALL_PROMISES = 0, PROMISES = 18;

    private static final class Part {
        final String text;
        final List<int[]> clauses = new ArrayList<>();
        final List<Boolean> quoted = new ArrayList<>();

        Part(String text) {
            this.text = text;
            Matcher clause = CLAUSE.matcher(text);
            while (clause.find()) {
                if (!clause.group().isBlank()) {
                    clauses.add(new int[] {clause.start(), clause.end()});
                    quoted.add(false);
                }
            }
        }

        /** Words that stand in two places of a part would leave open which of them is meant. */
        boolean quote(String words) {
            int from = text.indexOf(words);
            if (from < 0 || text.indexOf(words, from + 1) >= 0) {
                return false;
            }
            for (int i = 0; i < clauses.size(); i++) {
                boolean touched = clauses.get(i)[0] < from + words.length() && from < clauses.get(i)[1];
                quoted.set(i, quoted.get(i) || touched);
            }
            return true;
        }
    }

    private final Part[] parts = new Part[PROMISES + 1];

    private Document(String text) {
        parts[ALL_PROMISES] = new Part(between(text, "An object is used", "## The public face") + "\n"
            + between(text, "0 DOUGH;", "## Promise 1:").replace("```text", "").replace("```", ""));
        for (int promise = 1; promise <= PROMISES; promise++) {
            String end = promise == PROMISES ? "## Not promised" : "## Promise " + (promise + 1) + ":";
            String section = between(text, "## Promise " + promise + ":", end);
            parts[promise] = new Part(section.substring(section.indexOf("`: ") + 3));
        }
    }

    static Document read(String path) {
        try {
            return new Document(Files.readString(Path.of(path), StandardCharsets.UTF_8));
        } catch (IOException e) {
            throw new IllegalStateException("the document is not at " + path, e);
        }
    }

    /** Whether these words stand once in the promise's own part, or else once in the part for all promises. */
    boolean quote(int promise, String words) {
        return parts[promise].quote(words) || parts[ALL_PROMISES].quote(words);
    }

    List<String> unquoted() {
        List<String> left = new ArrayList<>();
        for (int promise = ALL_PROMISES; promise <= PROMISES; promise++) {
            Part part = parts[promise];
            for (int i = 0; i < part.clauses.size(); i++) {
                if (!part.quoted.get(i)) {
                    int[] clause = part.clauses.get(i);
                    left.add("part " + promise + ", '" + part.text.substring(clause[0], clause[1]).strip() + "'");
                }
            }
        }
        return left;
    }

    private static String between(String text, String from, String to) {
        int start = text.indexOf(from);
        int end = text.indexOf(to, Math.max(start, 0));
        if (start < 0 || end < 0) {
            throw new IllegalStateException("the document has no part from '" + from + "' to '" + to + "'");
        }
        return text.substring(start, end);
    }
}
