import java.io.IOException;
import java.nio.charset.StandardCharsets;
import java.nio.file.Files;
import java.nio.file.Path;
import java.util.List;
import java.util.regex.MatchResult;
import java.util.regex.Matcher;
import java.util.regex.Pattern;

/** DOC.md, and which of its words a test has been written for. */
final class Document {
    private static final Pattern WORD = Pattern.compile("-?\\w+");
    /** Marks and headings: they part the document, and promise nothing. */
    private static final Pattern MARK = Pattern.compile(
        "=+ [1-4] |```(text|java)?|# SleepHarbour|## (What it is|The public face|Terms|Promise \\d+: (A new object|\\w+))");
    /** What it is, told as a picture; the words behind it say the same as the terms do, in brief. */
    private static final String PICTURE = "Harbour masters allot the sleep: it is a port, this whole quiet town, of an evening, and"
        + " dreams come in from the roads, under tow, some very large, and there is a man in a lit window with a book who has got to"
        + " say who, ";

    private final String text;
    private final boolean[] tested;
    private final int end;

    Document(Path file) throws IOException {
        text = Files.readString(file, StandardCharsets.UTF_8).replaceAll("\\s+", " ");
        tested = new boolean[text.length()];
        end = text.indexOf("## Not promised");
        if (end < 0 || !text.contains("## Terms")) {
            throw new IllegalStateException("this is not the document: " + file);
        }
    }

    /** What the document says of one promise. */
    String promise(int number) {
        int from = text.indexOf("## Promise " + number + ":");
        int to = text.indexOf("## ", from + 3);
        return from < 0 ? "" : text.substring(from, to);
    }

    /** What it says between two marks, each of which it must have. */
    String between(String mark, String next) {
        int from = text.indexOf(mark);
        int to = from < 0 ? -1 : text.indexOf(next, from + mark.length());
        if (to < 0) {
            throw new IllegalStateException("the document has no " + mark + " .. " + next);
        }
        return text.substring(from + mark.length(), to);
    }

    /** All that it says in one form. */
    List<MatchResult> all(String form) {
        return Pattern.compile(form).matcher(text).results().toList();
    }

    /** Marks the words of a sentence as tested; there must be such a sentence. */
    void mark(String sentence, Check check) {
        int found = 0;
        for (int at = text.indexOf(sentence); at >= 0; at = text.indexOf(sentence, at + 1)) {
            found++;
            fill(at, at + sentence.length());
        }
        check.isTrue("the document says: " + sentence, found > 0);
    }

    /** Each word from the first line up to what is not promised must be in a sentence that is tested. */
    void requireWords(Check check) {
        for (Matcher m = MARK.matcher(text); m.find();) {
            fill(m.start(), m.end());
        }
        mark(PICTURE, check);
        Matcher m = WORD.matcher(text).region(0, end);
        while (m.find()) {
            int from = Math.max(0, m.start() - 40);
            int to = Math.min(text.length(), m.end() + 20);
            check.isTrue("a test for '" + m.group() + "' in: " + text.substring(from, to), isTested(m.start(), m.end()));
        }
    }

    private void fill(int from, int to) {
        for (int i = from; i < to; i++) {
            tested[i] = true;
        }
    }

    private boolean isTested(int from, int to) {
        for (int i = from; i < to; i++) {
            if (!tested[i]) {
                return false;
            }
        }
        return true;
    }
}
