import java.io.IOException;
import java.nio.file.Files;
import java.nio.file.Path;

/** What the tests share: a text fed whole, an answer compared with the one that is due. */
final class Check {
    static final int NONE = -1, UNKNOWN = -1000000001, OUTSIDE = -1000000002, NOT = -1000000003, FULL = -1000000004;
    static final int LOWEST = Integer.MIN_VALUE, HIGHEST = Integer.MAX_VALUE;

    /** Two triangles' worth of water: a ring 0, 1, 2 and a side arm 1, 3, 4, 5; the boats do not touch one another. */
    static final String RING = "j6;c0 1 5;c1 2 9;c2 0 20;c1 3 40;c3 4 2;c4 5 30;b0 60 10;b3 25 4;b2 999 0;";

    /** A ring of seven, round which a boat from 0 goes by 1, 2 and on: behind n steps it is at n left over by 7. */
    static final String SEVEN = "j7;c0 1 0;c1 2 0;c2 3 0;c3 4 0;c4 5 0;c5 6 0;c6 0 0;";

    /** All the cuts that there may be. */
    static final String FOURTEEN = "c0 1 0;c0 2 1;c0 3 2;c0 4 3;c0 5 4;c0 6 5;c0 7 6;c0 8 7;c1 2 8;c1 3 9;c1 4 10;c1 5 11;c1 6 12;c1 7 99;";

    private int wrong = 0;
    private String sentence = "";

    /** The document's text, with single blanks between its words; empty where it cannot be read. */
    static String document() {
        Path path = Path.of("../shared/DOC.md");
        try {
            return Files.isReadable(path) ? Files.readString(path).replaceAll("\\s+", " ") : "";
        } catch (IOException unreadable) {
            return "";
        }
    }

    /** Which sentence of the document the next calls are held to; SentencesTest looks whether the document has it. */
    void says(String words) {
        sentence = words;
    }

    void due(String call, int got, int want) {
        if (got == want) return;
        wrong++;
        if (!sentence.isEmpty()) System.out.println("\"" + sentence + "\":");
        System.out.println(call + " answered " + got + ", due is " + want);
    }

    /** The text has no fault and so many boats. */
    void reads(String text, int boats) {
        TowedBack x = new TowedBack();
        due("water() of '" + text + "'", pour(x, text), boats);
        due("fault() of '" + text + "'", x.fault(), NONE);
    }

    void faulty(String text, int kind, int at) {
        TowedBack x = new TowedBack();
        due("water() of '" + text + "'", pour(x, text), -10 - kind);
        due("fault() of '" + text + "'", x.fault(), at);
        due("told(0) behind '" + text + "'", x.told(0), 0);
    }

    /** Feeds the text and makes it the water. */
    static int pour(TowedBack x, String text) {
        for (int k = 0; k < text.length(); k++) x.feed(text.charAt(k));
        return x.water();
    }

    static TowedBack on(String text) {
        TowedBack x = new TowedBack();
        pour(x, text);
        return x;
    }

    /** The seed can be read only by setting it: so it is set back. */
    static int seedOf(TowedBack x) {
        int seed = x.seed(0);
        x.seed(seed);
        return seed;
    }

    static String repeat(String part, int times) {
        return part.repeat(times);
    }

    void end() {
        if (wrong == 0) return;
        System.out.println(wrong + " answers are not as due");
        System.exit(1);
    }
}
