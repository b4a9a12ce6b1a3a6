/** Section 3 as far as promises 24 to 32 go: each sentence that names an edge has a test of its own. */
public final class SeenEdgesTest {
    private static final int NONE = Check.NONE, UNKNOWN = Check.UNKNOWN, OUTSIDE = Check.OUTSIDE, NOT = Check.NOT, FULL = Check.FULL;
    private static final int LOWEST = Check.LOWEST, HIGHEST = Check.HIGHEST;
    private static final int[] NO_BOATS = {LOWEST, -2, -1, 2, 3, 5, HIGHEST};
    private static final int[] NO_JUNCTIONS = {LOWEST, -2, -1, 6, 9, HIGHEST};
    /** From 0 a boat comes as far as its pull: 1 to 1, 2 to 2, .. 5 and more to 5. */
    private static final String STAIRS = "j6;c0 1 0;c1 2 1;c2 3 2;c3 4 3;c4 5 4;";
    /** It wears by 1 over cuts as hard as 0: it goes as many steps as it is pulled by. */
    private static final String WORN = Check.SEVEN + "b0 5 1;";
    private static final Check check = new Check();

    public static void main(String[] args) {
        seenSixAtMost();
        seenWithinThirty();
        seenFromNowhereWithItsWear();
        seeRefusals();
        leftFromZeroTo999();
        leftTheIthRising();
        leftNone();
        leftUnknown();
        lookWithinThirty();
        lookGreatestPartIsLeast();
        lookOfLikeOnesTheLeast();
        lookNonePartsThem();
        lookUnknown();
        bookFifteenAtMost();
        writeRefusals();
        wrongTheFirst();
        judgeNone();
        tearEmptiesBoth();
        seedBounds();
        imagesTwo();
        imagesKeepSection2AndTheSeed();
        imagesKeepNothingElse();
        keepNothingCanBeUndone();
        goBackNothingCanBeUndone();
        goBackNotKept();
        check.end();
    }

    // ---- what is seen

    private static void seenSixAtMost() {
        check.says("SEEN (6 at most)");
        TowedBack x = Check.on(STAIRS + "b0 5 0;b0 5 0;");
        for (int k = 1; k <= 6; k++) check.due("see(" + k % 2 + ", 5, 5), the " + k + "th", x.see(k % 2, 5, 5), k);
        check.due("a seventh", x.see(0, 5, 4), FULL);
        check.due("of the other boat", x.see(1, 0, 0), FULL);
        check.due("told(7)", x.told(7), 6);
        check.due("left(0, -1): it did not count", x.left(0, NONE), 995);
        check.due("tear()", x.tear(), 6);
        check.due("there is room again", x.see(0, 5, 4), 1);
        TowedBack last = Check.on(STAIRS + "b0 5 0;");
        for (int k = 0; k < 5; k++) last.see(0, 0, 0);
        last.see(0, 5, 4);
        check.due("the sixth counts", last.left(0, NONE), 1);
    }

    private static void seenWithinThirty() {
        check.says("was at a JUNCTION behind n STEPS (0 .. 30)");
        TowedBack x = Check.on(WORN);
        for (int n : new int[] {LOWEST, -30, -1, 31, 32, HIGHEST}) check.due("see(0, " + n + ", 0)", x.see(0, n, 0), OUTSIDE);
        check.due("told(7)", x.told(7), 0);
        check.due("see(0, 0, 0)", x.see(0, 0, 0), 1);
        check.due("behind none it is where it is", x.left(0, NONE), 1000);
        check.due("see(0, 30, 2)", x.see(0, 30, 2), 2);
        // 2, 9, 16, 23 sit at 2 before that; 30 and more are at 2 then.
        check.due("left(0, -1)", x.left(0, NONE), 4 + 970);
        check.due("left(0, 3)", x.left(0, 3), 23);
        check.due("left(0, 4)", x.left(0, 4), 30);
        check.due("see(0, 29, 1)", x.see(0, 29, 1), 3);
        check.due("left(0, -1)", x.left(0, NONE), 970);
        check.due("see(0, 0, 1)", x.see(0, 0, 1), 4);
        check.due("behind none it is nowhere else", x.left(0, NONE), 0);
    }

    private static void seenFromNowhereWithItsWear() {
        check.says("a BOAT that went from where it is now, FROM nowhere, with its WEAR");
        TowedBack x = Check.on(STAIRS + "b0 999 0;b0 0 2;");
        x.step(2);
        x.see(0, 1, 1);
        check.due("from 2 by 1 to 1, though it came from there", x.left(0, NONE), 998);
        check.due("left(0, 0)", x.left(0, 0), 2);
        x.see(0, 1, 2);
        check.due("not both", x.left(0, NONE), 0);
        x.see(1, 3, 3);
        // 2 at the third cut, behind a wear of 4: more than 6.
        check.due("left(1, 0)", x.left(1, 0), 7);
        check.due("left(1, -1)", x.left(1, NONE), 993);
        x.weigh(1, 7);
        check.due("what it is pulled by is nothing to it", x.left(1, NONE), 993);
    }

    private static void seeRefusals() {
        check.says("SEEN: how much. UNKNOWN, OUTSIDE, FULL (6).");
        TowedBack x = Check.on(STAIRS + "b0 5 0;b0 5 0;");
        for (int filled = 0; filled < 2; filled++) {
            for (int b : NO_BOATS) {
                check.due("see(" + b + ", 0, 0)", x.see(b, 0, 0), UNKNOWN);
                check.due("see(" + b + ", 31, 0): unknown first", x.see(b, 31, 0), UNKNOWN);
            }
            for (int j : NO_JUNCTIONS) {
                check.due("see(0, 0, " + j + ")", x.see(0, 0, j), UNKNOWN);
                check.due("see(0, 31, " + j + "): unknown first", x.see(0, 31, j), UNKNOWN);
            }
            check.due("see(0, 31, 0): outside before full", x.see(0, 31, 0), OUTSIDE);
            check.due("told(7)", x.told(7), filled * 6);
            for (int k = 0; k < 6; k++) x.see(0, 0, 0);
        }
        check.due("see(0, 0, 5)", x.see(0, 0, 5), FULL);
    }

    private static void leftFromZeroTo999() {
        check.says("LEFT: PULLS (0 .. 999) by which all that is SEEN of a BOAT is so");
        TowedBack x = Check.on("j2;c0 1 99;b0 5 0;b1 5 0;b0 5 0;");
        check.due("nothing is seen", x.left(0, NONE), 1000);
        x.see(0, 1, 0);
        check.due("0 .. 99", x.left(0, NONE), 100);
        check.due("the least", x.left(0, 0), 0);
        check.due("the greatest", x.left(0, 99), 99);
        x.see(1, 1, 0);
        check.due("100 .. 999", x.left(1, NONE), 900);
        check.due("the least", x.left(1, 0), 100);
        check.due("the greatest", x.left(1, 899), 999);
        check.due("what is seen of others is nothing to it", x.left(2, NONE), 1000);
        x.see(0, 2, 1);
        check.due("all that is seen", x.left(0, NONE), 0);
    }

    private static void leftTheIthRising() {
        check.says("how many; the i-th (rising); NONE.");
        TowedBack x = Check.on(WORN);
        x.see(0, 30, 2);
        int[] first = {2, 9, 16, 23, 30, 31};
        for (int i = 0; i < first.length; i++) check.due("left(0, " + i + ")", x.left(0, i), first[i]);
        check.due("left(0, 973)", x.left(0, 973), 999);
        for (int i = 1; i < 20; i++) check.due("left(0, " + i + ") is more than the one ahead", x.left(0, i) > x.left(0, i - 1) ? 1 : 0, 1);
    }

    private static void leftNone() {
        check.says("LEFT: i = NONE how many, else the i-th; NONE.");
        TowedBack x = Check.on(STAIRS + "b0 5 0;b0 5 0;");
        check.due("left(0, 999)", x.left(0, 999), 999);
        for (int i : new int[] {LOWEST, -2, 1000, 1001, HIGHEST}) check.due("left(0, " + i + ")", x.left(0, i), NONE);
        x.see(0, 9, 4);
        check.due("left(0, -1)", x.left(0, NONE), 1);
        check.due("left(0, 0)", x.left(0, 0), 4);
        check.due("left(0, 1)", x.left(0, 1), NONE);
        x.see(0, 9, 3);
        check.due("how many: none", x.left(0, NONE), 0);
        check.due("left(0, 0)", x.left(0, 0), NONE);
    }

    private static void leftUnknown() {
        check.says("LEFT: i = NONE how many, else the i-th; NONE. UNKNOWN.");
        TowedBack x = Check.on(STAIRS + "b0 5 0;b0 5 0;");
        for (int b : NO_BOATS) {
            check.due("left(" + b + ", -1)", x.left(b, NONE), UNKNOWN);
            check.due("left(" + b + ", 1000)", x.left(b, 1000), UNKNOWN);
        }
        check.due("without water", new TowedBack().left(0, 0), UNKNOWN);
    }

    // ---- look

    private static void lookWithinThirty() {
        check.says("LOOK: behind how many STEPS (1 .. 30) by where it is these are told apart best");
        // Behind n steps n and more are together with every seventh below: 1000 - n + n / 7 alike, ever less.
        check.due("the most", Check.on(WORN).look(0), 30);
        check.due("the least", Check.on("j2;c0 1 50;b0 5 0;").look(0), 1);
        TowedBack late = Check.on(WORN);
        late.see(0, 30, 2);
        // Left are 2, 9, 16, 23 and from 30 on: behind 24 steps first these four sit at 2 and all others are elsewhere.
        check.due("of those left", late.look(0), 24);
        late.see(0, 29, 1);
        check.due("those from 30 on part behind 31 only", late.look(0), NONE);
    }

    private static void lookGreatestPartIsLeast() {
        check.says("the greatest part that is alike is least");
        // Behind so many steps it is at 0, 1, 2 by so many pulls (the next cut is passed from 100, 100, 298, 397, 397, 595,
        // 694, 694, 892, 991, 991 on): 1: 100, 900, 0. 2: 100, 0, 900. 3: 802, 0, 198. 4: 199, 603, 198. 5: 199, 0, 801.
        // 6: 604, 0, 396. 7: 298, 306, 396. 8: 298, 0, 702. 9: 406, 0, 594. 10: 397, 9, 594. 11 and on: 397, 0, 603.
        TowedBack x = Check.on("j3;c0 1 99;c1 2 0;c2 0 99;b0 5 99;");
        check.due("look(0)", x.look(0), 7);
    }

    private static void lookOfLikeOnesTheLeast() {
        check.says("the greatest part that is alike is least; of like ones the least; NONE: none parts them.");
        // From the first step on 0 is apart from the others, and nothing changes any more.
        check.due("all are like", Check.on("j2;c0 1 0;b0 5 0;").look(0), 1);
        // By stairs 0, 1, 2, 3, 4 part one by one: behind 5 steps and more 995 are together.
        check.due("from the fifth on", Check.on(STAIRS + "b0 5 0;").look(0), 5);
        TowedBack x = Check.on(STAIRS + "b0 5 0;");
        x.see(0, 4, 4);
        check.due("4 and 5 part behind 5 first", x.look(0), 5);
    }

    private static void lookNonePartsThem() {
        check.says("NONE: none parts them.");
        check.due("it cannot go", Check.on("j1;b0 5 0;").look(0), NONE);
        TowedBack x = Check.on(STAIRS + "b0 5 0;b0 5 0;");
        x.see(0, 30, 5);
        check.due("995 go alike", x.left(0, NONE), 995);
        check.due("look(0)", x.look(0), NONE);
        check.due("look(1)", x.look(1), 5);
        x.see(1, 30, 2);
        check.due("one is left", x.left(1, NONE), 1);
        check.due("look(1)", x.look(1), NONE);
        x.see(1, 30, 3);
        check.due("none is left", x.left(1, NONE), 0);
        check.due("look(1)", x.look(1), NONE);
    }

    private static void lookUnknown() {
        check.says("LOOK; NONE. UNKNOWN.");
        TowedBack x = Check.on(STAIRS + "b0 5 0;b0 5 0;");
        for (int b : NO_BOATS) check.due("look(" + b + ")", x.look(b), UNKNOWN);
        check.due("without water", new TowedBack().look(0), UNKNOWN);
    }

    // ---- the book

    private static void bookFifteenAtMost() {
        check.says("THE BOOK (15 at most) tells where BOATS are");
        TowedBack x = Check.on(STAIRS + "b0 5 0;b5 5 0;");
        for (int k = 1; k <= 14; k++) check.due("write(0, 0), the " + k + "th", x.write(0, 0), k);
        check.due("the fifteenth", x.write(1, 4), 15);
        check.due("judge(): it counts", x.judge(), 14);
        check.due("the sixteenth", x.write(1, 5), FULL);
        check.due("told(8)", x.told(8), 15);
        check.due("tear()", x.tear(), 15);
        check.due("there is room again", x.write(1, 5), 1);
        check.due("judge()", x.judge(), NONE);
    }

    private static void writeRefusals() {
        check.says("An entry behind THE BOOK: how many. UNKNOWN, FULL (15).");
        TowedBack x = Check.on(STAIRS + "b0 5 0;b5 5 0;");
        for (int filled = 0; filled < 2; filled++) {
            for (int b : NO_BOATS) check.due("write(" + b + ", 0)", x.write(b, 0), UNKNOWN);
            for (int j : NO_JUNCTIONS) check.due("write(0, " + j + ")", x.write(0, j), UNKNOWN);
            check.due("told(8)", x.told(8), filled * 15);
            for (int k = 0; k < 15; k++) check.due("write(1, 5)", x.write(1, 5), filled == 0 ? k + 1 : FULL);
        }
        check.due("without water", new TowedBack().write(0, 0), UNKNOWN);
    }

    private static void wrongTheFirst() {
        check.says("WRONG: the first that is otherwise now; NONE.");
        TowedBack x = Check.on(STAIRS + "b0 2 0;b5 0 0;");
        x.write(1, 5);
        x.write(0, 0);
        x.write(0, 1);
        x.write(0, 2);
        x.write(1, 5);
        int[] due = {2, 1, 1};
        for (int n = 0; n < 3; n++) {
            check.due("judge() behind " + n + " steps", x.judge(), due[n]);
            x.step(1);
        }
        x.tear();
        x.write(0, 2);
        check.due("as it is now", x.judge(), NONE);
        x.undo();
        x.undo();
        check.due("undone, it is otherwise", x.judge(), 0);
    }

    private static void judgeNone() {
        check.says("`int judge()`: WRONG; NONE.");
        check.due("without water", new TowedBack().judge(), NONE);
        TowedBack x = Check.on(STAIRS + "b0 2 0;b5 0 0;");
        check.due("an empty book", x.judge(), NONE);
        for (int k = 0; k < 15; k++) x.write(k % 2, k % 2 * 5);
        check.due("all are so", x.judge(), NONE);
    }

    private static void tearEmptiesBoth() {
        check.says("Nothing SEEN, THE BOOK is empty: how much both had.");
        check.due("without water", new TowedBack().tear(), 0);
        TowedBack x = Check.on(STAIRS + "b0 2 0;b5 0 0;");
        check.due("both empty", x.tear(), 0);
        for (int k = 0; k < 6; k++) x.see(0, 0, 5);
        check.due("seen alone", x.tear(), 6);
        check.due("told(7)", x.told(7), 0);
        for (int k = 0; k < 15; k++) x.write(0, 5);
        check.due("the book alone", x.tear(), 15);
        check.due("told(8)", x.told(8), 0);
        for (int k = 0; k < 6; k++) x.see(0, 0, 5);
        for (int k = 0; k < 15; k++) x.write(0, 5);
        check.due("both full", x.tear(), 21);
        check.due("left(0, -1)", x.left(0, NONE), 1000);
        check.due("judge()", x.judge(), NONE);
        check.due("tear() again", x.tear(), 0);
    }

    // ---- draws, images

    private static void seedBounds() {
        check.says("THE SEED becomes v (0 .. 2147483647): what it was. OUTSIDE.");
        TowedBack x = new TowedBack();
        check.due("seed(2147483647)", x.seed(2147483647), 0);
        for (int v : new int[] {LOWEST, LOWEST + 1, -2, -1}) check.due("seed(" + v + ")", x.seed(v), OUTSIDE);
        check.due("seed(1)", x.seed(1), 2147483647);
        check.due("seed(0)", x.seed(0), 1);
        check.due("seed(0) again", x.seed(0), 0);
    }

    private static void imagesTwo() {
        check.says("IMAGES 0, 1");
        TowedBack x = Check.on(WORN);
        for (int i : new int[] {LOWEST, -1, 2, 3, HIGHEST}) {
            check.due("keep(" + i + ")", x.keep(i), UNKNOWN);
            check.due("goBack(" + i + ")", x.goBack(i), UNKNOWN);
        }
        x.step(1);
        check.due("keep(0)", x.keep(0), 1);
        x.step(1);
        check.due("keep(1)", x.keep(1), 1);
        x.step(1);
        check.due("goBack(0)", x.goBack(0), 1);
        check.due("told(4)", x.told(4), 1);
        check.due("goBack(1)", x.goBack(1), 1);
        check.due("told(4)", x.told(4), 2);
        check.due("goBack(0), as often as one likes", x.goBack(0), 1);
        check.due("told(4)", x.told(4), 1);
        x.keep(1);
        x.goBack(1);
        check.due("kept anew", x.told(4), 1);
    }

    private static void imagesKeepSection2AndTheSeed() {
        check.says("keep all of section 2, THE SEED.");
        TowedBack x = Check.on(Check.RING), twin = Check.on(Check.RING);
        for (TowedBack one : new TowedBack[] {x, twin}) {
            one.seed(5);
            one.drift(2);
            one.turn(1);
        }
        x.keep(1);
        x.drift(60);
        x.change(0, 2);
        x.forgive(1, 999);
        x.seed(2147483647);
        x.goBack(1);
        twin.keep(1);
        Snapshot.same(check, "gone back", x, twin);
        TowedBack again = Check.on(Check.RING), straight = Check.on(Check.RING);
        again.keep(0);
        again.drift(9);
        again.goBack(0);
        check.due("from it the draws are the same", again.drift(9), straight.drift(9));
        again.keep(0);
        straight.keep(0);
        Snapshot.same(check, "gone on", again, straight);
    }

    private static void imagesKeepNothingElse() {
        check.says("IMAGES 0, 1 keep all of section 2, THE SEED.");
        TowedBack x = Check.on(STAIRS + "b0 5 0;b0 5 0;");
        x.quay(0, 3);
        x.see(0, 5, 5);
        x.write(0, 0);
        x.keep(0);
        x.quay(0, 4);
        x.tear();
        x.write(1, 1);
        x.write(1, 2);
        x.feed('j');
        x.goBack(0);
        check.due("the quay", x.boat(0, 5), 4);
        check.due("what is seen", x.told(7), 0);
        check.due("the book", x.told(8), 2);
        check.due("the text", x.told(3), 1);
    }

    private static void keepNothingCanBeUndone() {
        check.says("IMAGE i becomes what is so (nothing can be undone then): 1. UNKNOWN.");
        TowedBack x = Check.on(WORN);
        for (int k = 0; k < 21; k++) x.step(1);
        check.due("keep(2)", x.keep(2), UNKNOWN);
        check.due("told(9): refused", x.told(9), 20);
        check.due("keep(1)", x.keep(1), 1);
        check.due("told(9)", x.told(9), 0);
        check.due("undo()", x.undo(), NOT);
        x.turn(0);
        check.due("what comes then can be", x.undo(), 0);
        check.due("undo()", x.undo(), NOT);
        check.due("without water", new TowedBack().keep(0), 1);
    }

    private static void goBackNothingCanBeUndone() {
        check.says("What is so becomes IMAGE i (nothing can be undone then): 1.");
        TowedBack x = Check.on(WORN);
        x.keep(0);
        for (int k = 0; k < 21; k++) x.step(1);
        check.due("goBack(1): not kept", x.goBack(1), NOT);
        check.due("goBack(2)", x.goBack(2), UNKNOWN);
        check.due("told(9): refused", x.told(9), 20);
        check.due("told(4)", x.told(4), 21);
        check.due("goBack(0)", x.goBack(0), 1);
        check.due("told(9)", x.told(9), 0);
        check.due("undo()", x.undo(), NOT);
        check.due("told(4)", x.told(4), 0);
        x.step(2);
        check.due("what comes then can be", x.undo(), 0);
        check.due("told(4)", x.told(4), 0);
    }

    private static void goBackNotKept() {
        check.says("UNKNOWN, NOT: it was not kept.");
        TowedBack x = new TowedBack();
        check.due("goBack(0) of a new object", x.goBack(0), NOT);
        check.due("goBack(1) of a new object", x.goBack(1), NOT);
        check.due("goBack(2): unknown first", x.goBack(2), UNKNOWN);
        Check.pour(x, WORN);
        check.due("goBack(0)", x.goBack(0), NOT);
        x.keep(1);
        check.due("the other was kept", x.goBack(0), NOT);
        check.due("this one was", x.goBack(1), 1);
        Check.pour(x, "x");
        check.due("behind a fault, still", x.goBack(1), 1);
        Check.pour(x, WORN);
        check.due("gone with the water", x.goBack(1), NOT);
    }
}
