import java.io.IOException;
import java.nio.charset.StandardCharsets;
import java.nio.file.Files;
import java.nio.file.Path;
import java.util.regex.Matcher;
import java.util.regex.Pattern;

/** DOC.md, and which of its words a test has been written for. */
final class Document {
    /** Words by which the document names a bound, an edge or a refusal. */
    private static final Pattern BOUND = Pattern.compile(
        "at most|at least|or more|or less|no more|fewer|\\bnone\\b|nothing|nobody|\\bfull\\b|forgotten|wrapping"
        + "|the least|\\bleast\\b|can not|can be nothing|\\.\\. \\d+|\\bfirst\\b|Of several|if there is one|if it can be"
        + "|\\bUNKNOWN\\b|\\bBAD\\b|\\bLATE\\b|\\bFULL\\b|\\bNONE\\b|less than 0|set aside|\\b0\\b");

    private final String text;
    private final boolean[] tested;
    private final int begin;
    private final int end;

    Document(Path file) throws IOException {
        text = Files.readString(file, StandardCharsets.UTF_8).replaceAll("\\s+", " ");
        tested = new boolean[text.length()];
        begin = text.indexOf("## Terms");
        end = text.indexOf("## Not promised");
        if (begin < 0 || end < begin) {
            throw new IllegalStateException("this is not the document: " + file);
        }
    }

    /** What the document says of one promise. */
    String promise(int number) {
        int from = text.indexOf("## Promise " + number + ":");
        int to = text.indexOf("## ", from + 3);
        return from < 0 ? "" : text.substring(from, to);
    }

    /** Marks the words of a sentence as tested; there must be such a sentence. */
    void mark(String sentence, Check check) {
        int found = 0;
        for (int at = text.indexOf(sentence); at >= 0; at = text.indexOf(sentence, at + 1)) {
            found++;
            for (int i = at; i < at + sentence.length(); i++) {
                tested[i] = true;
            }
        }
        check.isTrue("the document says: " + sentence, found > 0);
    }

    /** Each word of the terms and promises that names a bound must be in a sentence that is tested. */
    void requireBounds(Check check) {
        Matcher m = BOUND.matcher(text).region(begin, end);
        while (m.find()) {
            int from = Math.max(0, m.start() - 40);
            int to = Math.min(text.length(), m.end() + 20);
            check.isTrue("a test for '" + m.group() + "' in: " + text.substring(from, to), isTested(m.start(), m.end()));
        }
    }

    private boolean isTested(int from, int to) {
        for (int i = from; i < to; i++) {
            if (!tested[i]) {
                return false;
            }
        }
        return true;
    }
}
