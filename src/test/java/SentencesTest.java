import java.io.IOException;
import java.nio.file.Files;
import java.nio.file.Path;
import java.util.ArrayList;
import java.util.List;
import java.util.regex.Matcher;
import java.util.regex.Pattern;
import java.util.stream.Stream;

/**
 * Holds the tests to the document: every sentence that a test says is there word for word, and every place of the
 * document that names an edge lies within a sentence that a test says. Run from the project's folder.
 */
public final class SentencesTest {
    private static final Pattern SAID = Pattern.compile("check\\.says\\(\"((?:[^\"\\\\]|\\\\.)*)\"\\)");
    /** Words by which the document names an edge, a refusal or what is empty. */
    private static final Pattern EDGE = Pattern.compile("\\d \\.\\. |at most|at least|\\bat first\\b|\\bNONE\\b|\\bUNKNOWN\\b|\\bOUTSIDE\\b"
            + "|\\bNOT\\b|\\bFULL\\b|\\bempty\\b|\\bwithin\\b|above 9000|\\(cut\\)|left over|of like ones|of several|all 0|refused"
            + "|\\bagain\\b|fifteenth|sixth|four figures|one to three|unlike|no two|but not back|more than that|never SITS|none parts"
            + "|cannot|\\bstays\\b|\\bgone\\b|\\blost\\b|as it was|nothing changes|nothing can be undone|nor is there|of these the least");
    private static final Check check = new Check();

    public static void main(String[] args) throws IOException {
        String document = Check.document();
        if (document.isEmpty()) {
            System.out.println("no ../shared/DOC.md to hold the tests to");
            return;
        }
        List<String> said = said();
        boolean[] covered = new boolean[document.length()];
        for (String sentence : said) cover(document, sentence, covered);
        int from = document.indexOf("## Terms"), to = document.indexOf("## Not promised");
        check.due("the document has Terms and Promises", from > 0 && to > from ? 1 : 0, 1);
        Matcher edge = EDGE.matcher(document);
        while (edge.find()) {
            if (edge.start() < from || edge.start() >= to || covered[edge.start()]) continue;
            String around = document.substring(Math.max(0, edge.start() - 50), Math.min(document.length(), edge.end() + 30));
            check.due("tests that say \".. " + around + " ..\"", 0, 1);
        }
        check.end();
    }

    private static List<String> said() throws IOException {
        List<String> all = new ArrayList<>();
        List<Path> files;
        try (Stream<Path> found = Files.list(Path.of("src/test/java"))) {
            files = found.filter(path -> path.toString().endsWith("Test.java")).sorted().toList();
        }
        for (Path file : files) {
            Matcher matcher = SAID.matcher(Files.readString(file));
            while (matcher.find()) all.add(matcher.group(1));
        }
        check.due("there are sentences", all.isEmpty() ? 0 : 1, 1);
        return all;
    }

    private static void cover(String document, String sentence, boolean[] covered) {
        int at = document.indexOf(sentence);
        if (at < 0) check.due("the document says \"" + sentence + "\"", 0, 1);
        for (; at >= 0; at = document.indexOf(sentence, at + 1)) {
            for (int k = at; k < at + sentence.length(); k++) covered[k] = true;
        }
    }
}
