import java.io.File;
import java.nio.charset.StandardCharsets;
import java.nio.file.Files;
import java.util.regex.Matcher;
import java.util.regex.Pattern;

/**
 * Holds the tests of bounds against ../shared/DOC.md: each sentence that they name stands there, in the section of its
 * promise or ahead of the first promise; and each place that names a bound is of a sentence that is tested.
 */
final class DocumentTests {
    private static final Pattern BOUND = Pattern.compile("\\d[\\d,]* \\.\\. \\d|\\bat (most|least)\\b|\\b(NONE|HIDDEN|False|NoSuchElementException)\\b|-2:"
        + "|\\b(none|nothing|nobody|without|cut|latest|lowest|least|fewest|fewer|smallest|twice|once)\\b|\\bno (such|TIME|TOWN|HOUSE|ACT|IMAGE|REST)\\b"
        + "|\\b(can't|beyond|below|above|too|or more|or longer|no longer|alike|another one|going round|if it can)\\b");
    private final String text;
    private final boolean[] isTested;

    private DocumentTests(String text) {
        this.text = text;
        isTested = new boolean[text.length()];
    }

    static void runAll(String path) throws Exception {
        File file = new File(path);
        if (!file.isFile()) {
            System.out.println("no " + path + ": its sentences are not looked up");
            return;
        }
        String text = new String(Files.readAllBytes(file.toPath()), StandardCharsets.UTF_8);
        new DocumentTests(text.replace("```text", " ").replace("```", " ").replaceAll("\\s+", " ")).run();
    }

    private void run() {
        for (Sentence sentence : Sentence.all()) {
            Check.due(sentence.name() + "has answers", sentence.answers() > 0, true);
            int[] section = sectionOf(sentence.promise);
            boolean isThere = mark(sentence.words, section[0], section[1])
                || mark(sentence.words, 0, sectionOf(1)[0]);
            Check.due(sentence.name() + "stands in the document", isThere, true);
        }
        boolean[] isPromised = new boolean[44];
        for (Sentence sentence : Sentence.all()) {
            isPromised[sentence.promise] = true;
        }
        for (int promise = 1; promise <= 43; promise++) {
            Check.due("promise " + promise + " has a test of a bound", isPromised[promise], true);
        }
        lookFor(text.indexOf("## Terms"), text.indexOf("## Not promised"));
    }

    private int[] sectionOf(int promise) {
        int from = text.indexOf("## Promise " + promise + ":");
        int to = text.indexOf("## ", from + 3);
        return new int[] {from, to};
    }

    private boolean mark(String words, int from, int to) {
        boolean isThere = false;
        for (int at = text.indexOf(words, from); at >= 0 && at + words.length() <= to; at = text.indexOf(words, at + 1)) {
            isThere = true;
            for (int i = at; i < at + words.length(); i++) {
                isTested[i] = true;
            }
        }
        return isThere;
    }

    private void lookFor(int from, int to) {
        Check.due("the document has Terms and promises", from >= 0 && to > from, true);
        Matcher bound = BOUND.matcher(text);
        for (int at = from; at < to && bound.find(at) && bound.start() < to; at = bound.end()) {
            boolean isWhole = true;
            for (int i = bound.start(); i < bound.end(); i++) {
                isWhole &= isTested[i];
            }
            String around = text.substring(Math.max(0, bound.start() - 60), Math.min(text.length(), bound.end() + 60));
            Check.due("a test of '" + bound.group() + "' in '" + around + "'", isWhole, true);
        }
    }
}
