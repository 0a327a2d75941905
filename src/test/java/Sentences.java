import java.io.IOException;
import java.nio.charset.StandardCharsets;
import java.nio.file.Files;
import java.nio.file.Path;
import java.util.Arrays;
import java.util.regex.Matcher;
import java.util.regex.Pattern;

/**
 * The document's sentences that name a boundary case, each with a test of its own. A sentence is quoted
 * word by word, so that a document that changes is noticed; and a boundary that no test quotes is noticed too.
 */
final class Sentences {
    /** Words by which the document names a boundary case. */
    private static final Pattern BOUNDARY = Pattern.compile("\\.\\.|\\d to -?\\d|\\b(at most|at least|or more|or less|more than"
        + "|no more|one to three|at first|the first|the last|the least|of like ones|once|need one|never|empty|anywhere|at once"
        + "|1 and on|0 and on|from 1 on|0, too|0 too|too\\)|side by side|not above|as they are|as it was|as it may be|below 0"
        + "|UNKNOWN|OUTSIDE|NOT|FULL|NONE|FAULTS?|refused|refusal|REFUSALS)");
    private static final String BEGINS = "An object is used", FACE_BEGINS = "## The public face", FACE_ENDS = "## Terms", ENDS = "## Not promised";
    /** Ahead of what the interface calls a group of calls. */
    private static final String HEADING = "---- ";
    private static final int PROMISES = 35;

    private final Check check = new Check("BoundsTest");
    private final String document;
    private final boolean[] isQuoted;
    private String sentence = "";
    private int tests = 0;
    private int answers = 0;

    Sentences(Path path) throws IOException {
        document = oneLine(Files.readString(path, StandardCharsets.UTF_8));
        isQuoted = new boolean[document.length()];
    }

    private static String oneLine(String text) {
        return text.replaceAll("\\s+", " ");
    }

    /** A test of its own for a sentence, which the document has just once. */
    void test(String words, Runnable test) {
        sentence = words;
        tests++;
        answers = 0;
        int at = document.indexOf(words);
        check.holds("the document has just once: " + words, at >= 0 && document.indexOf(words, at + 1) < 0);
        if (at >= 0) {
            Arrays.fill(isQuoted, at, at + words.length(), true);
        }
        test.run();
        check.holds("a test that looks at no answer: " + words, answers > 0);
    }

    void due(String call, long got, long want) {
        answers++;
        check.due("[" + sentence + "] " + call, got, want);
    }

    void end() {
        everyBoundary(document.indexOf(BEGINS), document.indexOf(ENDS));
        for (int i = 1; i <= PROMISES; i++) {
            int from = document.indexOf("## Promise " + i + ":");
            int to = document.indexOf("##", from + 2);
            check.holds("a test for promise " + i, from >= 0 && to > from && hasQuote(from, to));
        }
        System.out.println("BoundsTest: " + tests + " sentences");
        check.end();
    }

    private boolean hasQuote(int from, int to) {
        for (int i = from; i < to; i++) {
            if (isQuoted[i]) {
                return true;
            }
        }
        return false;
    }

    private void everyBoundary(int begin, int end) {
        int faceBegins = document.indexOf(FACE_BEGINS), faceEnds = document.indexOf(FACE_ENDS);
        check.holds("the document's parts", begin > 0 && begin < faceBegins && faceBegins < faceEnds && faceEnds < end);
        Matcher m = BOUNDARY.matcher(document);
        while (m.find() && m.start() < end) {
            boolean isTold = m.start() > begin && (m.start() < faceBegins || m.start() > faceEnds)
                && !document.startsWith(HEADING, m.start() - HEADING.length());
            String about = document.substring(Math.max(0, m.start() - 40), Math.min(document.length(), m.end() + 40));
            check.holds("no test quotes: .." + about + "..", !isTold || isQuoted[m.start()]);
        }
    }
}
