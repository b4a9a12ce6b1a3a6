/** What the tests share: a text fed whole, an answer compared with the one that is due. */
final class Check {
    /** Two triangles' worth of water: a ring 0, 1, 2 and a side arm 1, 3, 4, 5; the boats do not touch one another. */
    static final String RING = "j6;c0 1 5;c1 2 9;c2 0 20;c1 3 40;c3 4 2;c4 5 30;b0 60 10;b3 25 4;b2 999 0;";

    private int wrong = 0;

    void due(String call, int got, int want) {
        if (got == want) return;
        wrong++;
        System.out.println(call + " answered " + got + ", due is " + want);
    }

    /** Feeds the text and makes it the water. */
    static int pour(TowedBack x, String text) {
        for (int k = 0; k < text.length(); k++) x.feed(text.charAt(k));
        return x.water();
    }

    static TowedBack on(String text) {
        TowedBack x = new TowedBack();
        pour(x, text);
        return x;
    }

    static String repeat(String part, int times) {
        StringBuilder all = new StringBuilder();
        for (int k = 0; k < times; k++) all.append(part);
        return all.toString();
    }

    void end() {
        if (wrong == 0) return;
        System.out.println(wrong + " answers are not as due");
        System.exit(1);
    }
}
