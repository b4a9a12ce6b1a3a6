/** Section 2, draws, what is undone, promises 8 to 15: each sentence that names an edge has a test of its own. */
public final class StepEdgesTest {
    private static final int NONE = Check.NONE, UNKNOWN = Check.UNKNOWN, OUTSIDE = Check.OUTSIDE, NOT = Check.NOT, FULL = Check.FULL;
    private static final int LOWEST = Check.LOWEST, HIGHEST = Check.HIGHEST;
    private static final int[] NO_STEPS = {LOWEST, -60, -1, 0, 61, 62, HIGHEST};
    private static final int[] NO_BOATS = {LOWEST, -2, -1, 3, 4, 5, HIGHEST};
    private static final Check check = new Check();

    public static void main(String[] args) {
        fromNoneAtFirst();
        notBackWhereItComesFrom();
        leastHardCut();
        ofLikeOnesTheLeastJunction();
        pulledByMoreThanHard();
        pullIsWearLess();
        elseItSits();
        mayGoOnLater();
        boatByBoat();
        stepsAndJunctionsAreCounted();
        forgivenDownToNothing();
        weighedDownToTheMost();
        changedEachWearsAsItDid();
        turnedComesFromNowhere();
        seedAtFirst();
        seedGoesRound();
        drawOfN();
        drawOnNothing();
        drawToForgive();
        drawToWeigh();
        noBoatsNoDraws();
        stepBounds();
        stepWithoutWater();
        stepAbove9000();
        forgiveBounds();
        weighBounds();
        changeUnknown();
        turnUnknown();
        driftBounds();
        driftWithoutWater();
        driftAbove9000();
        undoOneOfEach();
        undoTwentyAtMost();
        undoNotTheRefused();
        undoLeavesTheSeed();
        undoOfNone();
        quayEdges();
        check.end();
    }

    /** All of section 2 of a boat. */
    private static void boatIs(TowedBack x, int b, int at, int from, int pull, int went) {
        check.due("boat(" + b + ", 0)", x.boat(b, 0), at);
        check.due("boat(" + b + ", 1)", x.boat(b, 1), from);
        check.due("boat(" + b + ", 2)", x.boat(b, 2), pull);
        check.due("boat(" + b + ", 4)", x.boat(b, 4), went);
    }

    // ---- section 2

    private static void fromNoneAtFirst() {
        check.says("A BOAT comes FROM the JUNCTION where it was ahead of this one (NONE at first).");
        TowedBack x = Check.on("j9;c8 0 5;c0 4 5;b8 99 0;");
        boatIs(x, 0, 8, NONE, 99, 0);
        x.step(1);
        boatIs(x, 0, 0, 8, 99, 1);
        x.step(1);
        boatIs(x, 0, 4, 0, 99, 2);
        x.step(60);
        boatIs(x, 0, 4, 0, 99, 2);
    }

    private static void notBackWhereItComesFrom() {
        check.says("of CUTS from its JUNCTION, but not back to where it comes FROM");
        TowedBack x = Check.on("j3;c0 1 0;c1 2 99;b0 99 0;b0 100 0;");
        check.due("step(1)", x.step(1), 1);
        check.due("step(60): the way back is no way", x.step(60), 3);
        boatIs(x, 0, 1, 0, 99, 1);
        boatIs(x, 1, 2, 1, 100, 2);
        TowedBack ring = Check.on("j3;c0 1 9;c1 2 0;c2 0 9;b1 10 0;");
        ring.step(1);
        boatIs(ring, 0, 2, 1, 10, 1);
        ring.step(2);
        boatIs(ring, 0, 1, 0, 10, 3);
        ring.step(1);
        check.due("it comes from elsewhere: the same cut again", ring.boat(0, 0), 2);
    }

    private static void leastHardCut() {
        check.says("the least HARD one (of like ones that to the least JUNCTION)");
        String[] orders = {"c4 1 8;c4 2 7;c4 8 6;", "c8 4 6;c2 4 7;c1 4 8;", "c4 2 7;c8 4 6;c4 1 8;"};
        for (String cuts : orders) check.due("by " + cuts, Check.on("j9;" + cuts + "b4 99 0;").where(0, 1, 0), 8);
        check.due("0 is less than 1", Check.on("j3;c0 1 1;c0 2 0;b0 99 0;").where(0, 1, 0), 2);
        check.due("98 is less than 99", Check.on("j3;c0 1 99;c0 2 98;b0 100 0;").where(0, 1, 0), 2);
        check.due("a cut elsewhere is none of its own", Check.on("j4;c0 1 9;c2 3 0;b0 99 0;").where(0, 1, 0), 1);
    }

    private static void ofLikeOnesTheLeastJunction() {
        check.says("of like ones that to the least JUNCTION");
        String[] orders = {"c4 0 5;c4 1 5;c4 8 5;", "c8 4 5;c1 4 5;c0 4 5;", "c4 1 5;c0 4 5;c4 8 5;", "c4 1 5;c8 4 5;c4 0 5;"};
        for (String cuts : orders) {
            TowedBack x = Check.on("j9;" + cuts + "b4 99 0;b0 99 0;");
            x.step(1);
            check.due("boat(0, 0) by " + cuts, x.boat(0, 0), 0);
            check.due("boat(1, 0) by " + cuts, x.boat(1, 0), 4);
            x.step(1);
            check.due("boat(1, 0), from 0, by " + cuts, x.boat(1, 0), 1);
        }
    }

    private static void pulledByMoreThanHard() {
        check.says("if it is PULLED by more than that is HARD: it goes along");
        for (int hard : new int[] {0, 1, 50, 98, 99}) {
            TowedBack x = Check.on("j2;c0 1 " + hard + ";b0 " + hard + " 0;b0 " + (hard + 1) + " 0;");
            check.due("told(5), hard " + hard, x.told(5), 1);
            check.due("step(1), hard " + hard, x.step(1), 3);
            boatIs(x, 0, 0, NONE, hard, 0);
            boatIs(x, 1, 1, 0, hard + 1, 1);
        }
    }

    private static void pullIsWearLess() {
        check.says("its PULL is W less (0 at least)");
        TowedBack x = Check.on("j2;c0 1 0;b0 50 49;b0 50 50;b0 50 51;b0 50 0;b0 1 99;");
        x.step(1);
        int[] pulls = {1, 0, 0, 50, 0};
        for (int b = 0; b < 5; b++) boatIs(x, b, 1, 0, pulls[b], 1);
    }

    private static void elseItSits() {
        check.says("Else it SITS (it may go on later, when PULLED by more)");
        TowedBack x = Check.on("j3;c0 1 5;c1 2 5;b0 5 9;b0 11 6;b2 0 9;");
        x.step(1);
        check.due("step(3)", x.step(3), 7);
        boatIs(x, 0, 0, NONE, 5, 0);
        boatIs(x, 1, 1, 0, 5, 1);
        boatIs(x, 2, 2, NONE, 0, 0);
        check.due("no cut at all", Check.on("j9;c0 1 0;b8 999 0;").step(60), 1);
    }

    private static void mayGoOnLater() {
        check.says("(it may go on later, when PULLED by more)");
        TowedBack x = Check.on("j4;c0 1 5;c1 2 5;b0 11 6;b3 0 0;");
        check.due("step(60)", x.step(60), 3);
        x.weigh(0, 1);
        check.due("told(5)", x.told(5), 2);
        x.step(60);
        boatIs(x, 0, 2, 1, 0, 2);
        x.weigh(1, 999);
        check.due("without a cut it sits, pulled by whatever", x.step(1), 3);
    }

    private static void boatByBoat() {
        check.says("A STEP of all: BOAT by BOAT.");
        String[] boats = {"b0 60 10;", "b3 25 4;", "b2 999 0;", "b0 60 10;", "b5 31 99;"};
        String water = Check.RING.substring(0, Check.RING.indexOf('b'));
        TowedBack all = Check.on(water + String.join("", boats)), none = Check.on(water);
        for (int n = 0; n < 9; n++) {
            all.step(1);
            none.step(1);
            for (int b = 0; b < 5; b++) {
                TowedBack alone = Check.on(water + boats[b]);
                alone.step(n + 1);
                boatIs(all, b, alone.boat(0, 0), alone.boat(0, 1), alone.boat(0, 2), alone.boat(0, 4));
            }
        }
        check.due("none sits where there is none", none.told(5), 0);
    }

    private static void stepsAndJunctionsAreCounted() {
        check.says("STEPS are counted; how many JUNCTIONS each went to, too.");
        TowedBack x = Check.on(Check.SEVEN + "b0 999 0;b0 3 1;b0 0 0;");
        check.due("told(4) at first", x.told(4), 0);
        x.step(60);
        check.due("told(4)", x.told(4), 60);
        check.due("one that sits never", x.boat(0, 4), 60);
        check.due("one that sits behind three", x.boat(1, 4), 3);
        check.due("one that sits at once", x.boat(2, 4), 0);
        x.step(1);
        check.due("told(4)", x.told(4), 61);
        TowedBack none = Check.on("j1;");
        none.step(60);
        check.due("told(4) without boats", none.told(4), 60);
    }

    private static void forgivenDownToNothing() {
        check.says("FORGIVEN: its PULL is so much less (0 at least)");
        TowedBack x = Check.on("j1;b0 50 0;b0 50 0;b0 50 0;b0 0 0;b0 999 0;");
        check.due("forgive(0, 49)", x.forgive(0, 49), 1);
        check.due("forgive(1, 50)", x.forgive(1, 50), 0);
        check.due("forgive(2, 51)", x.forgive(2, 51), 0);
        check.due("boat(2, 2)", x.boat(2, 2), 0);
        check.due("forgive(3, 999)", x.forgive(3, 999), 0);
        check.due("forgive(4, 999)", x.forgive(4, 999), 0);
    }

    private static void weighedDownToTheMost() {
        check.says("WEIGHED DOWN: so much more (999 at most)");
        TowedBack x = Check.on("j1;b0 950 0;b0 950 0;b0 950 0;b0 0 0;b0 999 0;");
        check.due("weigh(0, 48)", x.weigh(0, 48), 998);
        check.due("weigh(1, 49)", x.weigh(1, 49), 999);
        check.due("weigh(2, 50)", x.weigh(2, 50), 999);
        check.due("boat(2, 2)", x.boat(2, 2), 999);
        check.due("weigh(3, 999)", x.weigh(3, 999), 999);
        check.due("weigh(4, 999)", x.weigh(4, 999), 999);
    }

    private static void changedEachWearsAsItDid() {
        check.says("CHANGED: two BOATS change their PULLS (each WEARS as it did)");
        TowedBack x = Check.on("j2;c0 1 0;b0 0 7;b0 1 1;b0 2 2;b0 3 3;b1 999 99;");
        check.due("change(0, 4)", x.change(0, 4), 999);
        boatIs(x, 0, 0, NONE, 999, 0);
        boatIs(x, 4, 1, NONE, 0, 0);
        for (int b = 1; b < 4; b++) boatIs(x, b, 0, NONE, b, 0);
        x.step(1);
        boatIs(x, 0, 1, 0, 992, 1);
        boatIs(x, 4, 1, NONE, 0, 0);
        check.due("boat(4, 3)", x.boat(4, 3), 99);
    }

    private static void turnedComesFromNowhere() {
        check.says("TURNED: it comes FROM nowhere.");
        TowedBack x = Check.on("j3;c0 1 0;c1 2 0;b0 9 1;b0 9 1;");
        x.step(2);
        check.due("turn(0)", x.turn(0), 1);
        boatIs(x, 0, 2, NONE, 7, 2);
        boatIs(x, 1, 2, 1, 7, 2);
        check.due("turn(0) again", x.turn(0), NONE);
        check.due("told(5)", x.told(5), 2);
        x.step(1);
        boatIs(x, 0, 1, 2, 6, 3);
    }

    // ---- draws

    private static void seedAtFirst() {
        check.says("THE SEED (0 at first");
        TowedBack x = new TowedBack();
        check.due("the seed of a new object", Check.seedOf(x), 0);
        Check.pour(x, "j1;b0 99 0;");
        x.drift(1);
        // 12345 (0, of four 0), 1406932606 (21468, of one 0), 654583775 (9988, of fifty 38).
        check.due("the first draws", Check.seedOf(x), 654583775);
        check.due("boat(0, 2)", x.boat(0, 2), 99 - 38);
    }

    /** One step with one boat of 500 at a junction without cuts, from this seed. */
    private static void oneDraw(int seed, int then, int pull) {
        TowedBack x = Check.on("j1;b0 500 0;");
        x.seed(seed);
        x.drift(1);
        check.due("the seed behind drift(1) from " + seed, Check.seedOf(x), then);
        check.due("the pull behind drift(1) from " + seed, x.boat(0, 2), pull);
    }

    private static void seedGoesRound() {
        check.says("each DRAW it becomes it times 1103515245 and 12345, left over by 2 to the 31");
        // 2088216195 becomes 0 (of four 0), then 12345 (of one 0), then 1406932606 (21468, of fifty 18).
        oneDraw(2088216195, 1406932606, 482);
        // 230538014 becomes 2147483647 (32767, of four 3).
        oneDraw(230538014, 2147483647, 500);
        // 2147483647 becomes 1043980748 (15929, of four 1), 288979989, 646343466 (9862, of fifty 12).
        oneDraw(2147483647, 646343466, 512);
    }

    private static void drawOfN() {
        check.says("the DRAW of n is it / 65536, left over by n");
        // 2032319262 becomes 65535 (0, of four 0), then 212263372, then 732068885 (11170, of fifty 20).
        oneDraw(2032319262, 732068885, 480);
        // 1742513795 becomes 65536 (1, of four 1), then 1315778617, then 1850021502 (28229, of fifty 29).
        oneDraw(1742513795, 1850021502, 529);
    }

    private static void drawOnNothing() {
        check.says("ahead of each, if there are BOATS, a DRAW of 4");
        // 1 becomes 1103527590 (16838, of four 2), 3 becomes 1163074432 (17747, of four 3): no more is drawn.
        oneDraw(1, 1103527590, 500);
        oneDraw(3, 1163074432, 500);
        TowedBack x = Check.on(Check.SEVEN + "b0 999 0;");
        x.seed(1);
        x.drift(1);
        check.due("it goes all the same", x.boat(0, 0), 1);
        check.due("a step is counted", x.told(4), 1);
    }

    private static TowedBack fiveFrom(int seed, int first, int last) {
        TowedBack x = Check.on("j2;c0 1 99;b0 " + first + " 0;b0 50 0;b0 50 0;b0 50 0;b0 " + last + " 0;");
        x.seed(seed);
        x.drift(1);
        for (int b = 1; b < 4; b++) boatIs(x, b, 0, NONE, 50, 0);
        return x;
    }

    private static void drawToForgive() {
        check.says("on 0 a DRAW of BOATS, of 50: that one is FORGIVEN so much");
        // 1882: 3036 (of four 0), 13119 (of five 4), 17249 (of fifty 49).
        TowedBack most = fiveFrom(1882, 50, 50);
        boatIs(most, 4, 0, NONE, 1, 0);
        boatIs(most, 0, 0, NONE, 50, 0);
        check.due("0 at least", fiveFrom(1882, 50, 48).boat(4, 2), 0);
        // 347: 10188 (of four 0), 9795 (of five 0), 20850 (of fifty 0): forgiven nothing, but drawn.
        TowedBack nothing = fiveFrom(347, 50, 50);
        check.due("boat(0, 2)", nothing.boat(0, 2), 50);
        check.due("three draws", Check.seedOf(nothing), 1366487350);
        // Ahead of the step: 149 less 49 are still more than 99, 148 are not.
        check.due("149 goes", fiveFrom(1882, 50, 149).boat(4, 0), 1);
        check.due("148 sits", fiveFrom(1882, 50, 148).boat(4, 0), 0);
    }

    private static void drawToWeigh() {
        check.says("on 1 a DRAW of BOATS, of 50: it is WEIGHED DOWN by that");
        // 1485: 2901 (of four 1), 23829 (of five 4), 99 (of fifty 49).
        TowedBack most = fiveFrom(1485, 50, 50);
        boatIs(most, 4, 0, NONE, 99, 0);
        boatIs(most, 0, 0, NONE, 50, 0);
        check.due("999 at most", fiveFrom(1485, 50, 951).boat(4, 2), 999);
        // 51: 6785 (of four 1), 6720 (of five 0), 16400 (of fifty 0).
        TowedBack nothing = fiveFrom(51, 50, 50);
        check.due("boat(0, 2)", nothing.boat(0, 2), 50);
        check.due("three draws", Check.seedOf(nothing), 1074839534);
        check.due("51 goes, as it is ahead of the step", fiveFrom(1485, 50, 51).boat(4, 0), 1);
        check.due("50 sits", fiveFrom(1485, 50, 50).boat(4, 0), 0);
    }

    private static void noBoatsNoDraws() {
        check.says("if there are BOATS");
        TowedBack x = Check.on("j1;");
        x.seed(7);
        check.due("drift(60)", x.drift(60), 0);
        check.due("the seed", Check.seedOf(x), 7);
        check.due("told(4)", x.told(4), 60);
        check.due("told(9)", x.told(9), 1);
    }

    // ---- promises 8 to 15

    private static void stepBounds() {
        check.says("n STEPS of all (1 .. 60): BOATS that SIT then (a SET).");
        TowedBack x = Check.on(Check.SEVEN + "b0 999 0;b0 60 1;b0 1 1;");
        for (int n : NO_STEPS) check.due("step(" + n + ")", x.step(n), OUTSIDE);
        check.due("told(4)", x.told(4), 0);
        check.due("step(1): one sits then, though it went", x.step(1), 4);
        check.due("boat(0, 0)", x.boat(0, 0), 1);
        x.undo();
        check.due("step(60)", x.step(60), 6);
        check.due("boat(0, 0)", x.boat(0, 0), 60 % 7);
        check.due("told(4)", x.told(4), 60);
        check.due("all sit", Check.on("j1;" + Check.repeat("b0 9 0;", 5)).step(1), 31);
        check.due("none sits", Check.on(Check.SEVEN + Check.repeat("b0 9 0;", 5)).step(60), 0);
    }

    private static void stepWithoutWater() {
        check.says("OUTSIDE, NOT: no WATER; FULL: STEPS are above 9000.");
        TowedBack x = new TowedBack();
        check.due("step(1)", x.step(1), NOT);
        check.due("step(60)", x.step(60), NOT);
        for (int n : NO_STEPS) check.due("step(" + n + "): outside first", x.step(n), OUTSIDE);
        check.due("told(4)", x.told(4), 0);
        check.due("told(9)", x.told(9), 0);
        Check.pour(x, "j1;");
        check.due("the least water", x.step(1), 0);
        x.water();
        check.due("no water again", x.step(1), NOT);
        Check.pour(x, "x");
        check.due("a fault is no water", x.step(1), NOT);
    }

    private static TowedBack steppedTo8999() {
        TowedBack x = Check.on("j2;c0 1 0;b0 9 0;");
        for (int k = 0; k < 149; k++) x.step(60);
        x.step(59);
        return x;
    }

    private static void stepAbove9000() {
        check.says("FULL: STEPS are above 9000.");
        TowedBack x = steppedTo8999();
        check.due("step(1) at 8999", x.step(1), 1);
        check.due("told(4)", x.told(4), 9000);
        check.due("step(1) at 9000", x.step(1), 1);
        check.due("told(4)", x.told(4), 9001);
        check.due("step(1) at 9001", x.step(1), FULL);
        check.due("step(60) at 9001", x.step(60), FULL);
        check.due("step(61): outside first", x.step(61), OUTSIDE);
        check.due("step(0): outside first", x.step(0), OUTSIDE);
        check.due("told(4)", x.told(4), 9001);
        check.due("told(9)", x.told(9), 20);
        check.due("undo()", x.undo(), 19);
        check.due("step(60) at 9000", x.step(60), 1);
        check.due("told(4)", x.told(4), 9060);
        check.due("step(1) at 9060", x.step(1), FULL);
        check.due("the rest may be done", x.forgive(0, 1), 8);
        Check.pour(x, "j1;");
        check.due("a new water has no steps", x.step(60), 0);
    }

    private static void forgiveBounds() {
        check.says("FORGIVEN so much (1 .. 999): PULL. UNKNOWN, OUTSIDE.");
        TowedBack x = Check.on("j1;b0 1 0;b0 1 0;b0 999 0;");
        for (int much : new int[] {LOWEST, -1, 0, 1000, 1001, HIGHEST}) check.due("forgive(2, " + much + ")", x.forgive(2, much), OUTSIDE);
        for (int b : NO_BOATS) {
            check.due("forgive(" + b + ", 1)", x.forgive(b, 1), UNKNOWN);
            check.due("forgive(" + b + ", 0): unknown first", x.forgive(b, 0), UNKNOWN);
        }
        check.due("told(9)", x.told(9), 0);
        check.due("forgive(2, 1)", x.forgive(2, 1), 998);
        check.due("forgive(2, 999)", x.forgive(2, 999), 0);
        check.due("told(9)", x.told(9), 2);
    }

    private static void weighBounds() {
        check.says("WEIGHED DOWN by so much (1 .. 999): PULL. UNKNOWN, OUTSIDE.");
        TowedBack x = Check.on("j1;b0 1 0;b0 1 0;b0 0 0;");
        for (int much : new int[] {LOWEST, -1, 0, 1000, 1001, HIGHEST}) check.due("weigh(2, " + much + ")", x.weigh(2, much), OUTSIDE);
        for (int b : NO_BOATS) {
            check.due("weigh(" + b + ", 1)", x.weigh(b, 1), UNKNOWN);
            check.due("weigh(" + b + ", 0): unknown first", x.weigh(b, 0), UNKNOWN);
        }
        check.due("told(9)", x.told(9), 0);
        check.due("weigh(2, 1)", x.weigh(2, 1), 1);
        check.due("weigh(2, 999)", x.weigh(2, 999), 999);
        check.due("told(9)", x.told(9), 2);
    }

    private static void changeUnknown() {
        check.says("CHANGED: PULL of the first. UNKNOWN.");
        TowedBack x = Check.on("j1;b0 10 0;b0 20 0;b0 30 0;");
        for (int b : NO_BOATS) {
            check.due("change(0, " + b + ")", x.change(0, b), UNKNOWN);
            check.due("change(" + b + ", 0)", x.change(b, 0), UNKNOWN);
            check.due("change(" + b + ", " + b + ")", x.change(b, b), UNKNOWN);
        }
        for (int b = 0; b < 3; b++) check.due("one twice: change(" + b + ", " + b + ")", x.change(b, b), UNKNOWN);
        check.due("told(9)", x.told(9), 0);
        check.due("change(2, 0)", x.change(2, 0), 10);
        check.due("change(0, 1)", x.change(0, 1), 20);
        check.due("boat(1, 2)", x.boat(1, 2), 30);
    }

    private static void turnUnknown() {
        check.says("TURNED: FROM where it came (NONE). UNKNOWN.");
        TowedBack x = Check.on("j2;c0 1 0;b0 0 0;b0 0 0;b0 9 0;");
        for (int b : NO_BOATS) check.due("turn(" + b + ")", x.turn(b), UNKNOWN);
        check.due("told(9)", x.told(9), 0);
        check.due("turn(2)", x.turn(2), NONE);
        x.step(1);
        check.due("turn(2)", x.turn(2), 0);
        check.due("told(9)", x.told(9), 3);
    }

    private static void driftBounds() {
        check.says("n STEPS (1 .. 60) BY DRAWS: as step().");
        TowedBack x = Check.on(Check.SEVEN + "b0 999 0;");
        for (int n : NO_STEPS) check.due("drift(" + n + ")", x.drift(n), OUTSIDE);
        check.due("told(4)", x.told(4), 0);
        check.due("the seed", Check.seedOf(x), 0);
        check.due("drift(1)", x.drift(1), 0);
        check.due("boat(0, 0)", x.boat(0, 0), 1);
        check.due("drift(59)", x.drift(59), 0);
        check.due("boat(0, 0)", x.boat(0, 0), 60 % 7);
        int seed = Check.seedOf(x), pull = x.boat(0, 2);
        TowedBack whole = Check.on(Check.SEVEN + "b0 999 0;");
        check.due("drift(60)", whole.drift(60), 0);
        check.due("told(4)", whole.told(4), 60);
        check.due("the seed, the same", Check.seedOf(whole), seed);
        check.due("the pull, the same", whole.boat(0, 2), pull);
        check.due("all sit", Check.on("j1;" + Check.repeat("b0 9 0;", 5)).drift(1), 31);
    }

    private static void driftWithoutWater() {
        check.says("n STEPS (1 .. 60) BY DRAWS: as step(). OUTSIDE, NOT: no WATER");
        TowedBack x = new TowedBack();
        x.seed(3);
        check.due("drift(1)", x.drift(1), NOT);
        check.due("drift(60)", x.drift(60), NOT);
        for (int n : NO_STEPS) check.due("drift(" + n + "): outside first", x.drift(n), OUTSIDE);
        check.due("the seed", Check.seedOf(x), 3);
        check.due("told(9)", x.told(9), 0);
        Check.pour(x, "j1;");
        check.due("the least water", x.drift(1), 0);
        x.water();
        check.due("no water again", x.drift(1), NOT);
    }

    private static void driftAbove9000() {
        check.says("n STEPS (1 .. 60) BY DRAWS: as step(). OUTSIDE, NOT: no WATER; FULL: STEPS are above 9000.");
        TowedBack x = steppedTo8999();
        x.drift(1);
        check.due("told(4)", x.told(4), 9000);
        x.drift(1);
        check.due("told(4)", x.told(4), 9001);
        int seed = Check.seedOf(x);
        check.due("drift(1) at 9001", x.drift(1), FULL);
        check.due("drift(61): outside first", x.drift(61), OUTSIDE);
        check.due("the seed", Check.seedOf(x), seed);
        check.due("told(4)", x.told(4), 9001);
        x.undo();
        x.drift(60);
        check.due("told(4)", x.told(4), 9060);
    }

    private static void undoOneOfEach() {
        check.says("UNDONE: the latest of step(), forgive(), weigh(), change(), turn(), drift() that was not refused");
        for (int kind = 0; kind < 6; kind++) {
            TowedBack x = Check.on(Check.RING), twin = Check.on(Check.RING);
            x.step(2);
            twin.step(2);
            act(x, kind);
            check.due("told(9), kind " + kind, x.told(9), 2);
            check.due("undo(), kind " + kind, x.undo(), 1);
            x.seed(0);
            Snapshot.same(check, "undone, kind " + kind, x, twin);
        }
        TowedBack x = Check.on(Check.RING);
        x.quay(0, 0);
        x.see(0, 0, 0);
        x.write(0, 0);
        x.seed(1);
        x.tear();
        x.feed('j');
        x.where(0, 1, 0);
        check.due("none of the others", x.undo(), NOT);
    }

    private static void act(TowedBack x, int kind) {
        if (kind == 0) x.step(1);
        if (kind == 1) x.forgive(2, 999);
        if (kind == 2) x.weigh(0, 999);
        if (kind == 3) x.change(0, 2);
        if (kind == 4) x.turn(0);
        if (kind == 5) x.drift(3);
    }

    private static void undoTwentyAtMost() {
        check.says("(20 at most are kept, the oldest are lost)");
        for (int done : new int[] {19, 20, 21, 39, 40, 41, 60}) {
            TowedBack x = Check.on("j1;b0 0 0;");
            for (int k = 0; k < done; k++) x.weigh(0, 1);
            int kept = Math.min(done, 20);
            check.due("told(9) of " + done, x.told(9), kept);
            for (int k = kept - 1; k >= 0; k--) {
                check.due("undo() of " + done, x.undo(), k);
                check.due("boat(0, 2) of " + done, x.boat(0, 2), done - kept + k);
            }
            check.due("undo() of " + done, x.undo(), NOT);
            check.due("boat(0, 2) of " + done, x.boat(0, 2), done - kept);
        }
        TowedBack x = Check.on("j1;b0 0 0;");
        for (int k = 0; k < 30; k++) x.weigh(0, 1);
        for (int k = 0; k < 5; k++) x.undo();
        for (int k = 0; k < 3; k++) x.weigh(0, 100);
        check.due("told(9), between", x.told(9), 18);
        for (int k = 0; k < 3; k++) x.undo();
        check.due("boat(0, 2), between", x.boat(0, 2), 25);
        for (int k = 0; k < 15; k++) x.undo();
        check.due("boat(0, 2), the oldest", x.boat(0, 2), 10);
        check.due("undo()", x.undo(), NOT);
    }

    private static void undoNotTheRefused() {
        check.says("that was not refused");
        TowedBack x = Check.on("j1;b0 500 0;");
        x.forgive(0, 100);
        x.step(61);
        x.step(0);
        x.drift(61);
        x.forgive(0, 0);
        x.forgive(1, 1);
        x.weigh(0, 1000);
        x.weigh(-1, 1);
        x.change(0, 0);
        x.change(0, 1);
        x.turn(1);
        check.due("told(9)", x.told(9), 1);
        check.due("undo()", x.undo(), 0);
        check.due("boat(0, 2)", x.boat(0, 2), 500);
    }

    private static void undoLeavesTheSeed() {
        check.says("all of section 2 is as ahead of it; THE SEED stays");
        TowedBack x = Check.on(Check.RING);
        x.seed(99);
        x.drift(9);
        int seed = Check.seedOf(x);
        check.due("undo()", x.undo(), 0);
        check.due("the seed", Check.seedOf(x), seed);
        check.due("told(4)", x.told(4), 0);
        boatIs(x, 0, 0, NONE, 60, 0);
        boatIs(x, 1, 3, NONE, 25, 0);
        boatIs(x, 2, 2, NONE, 999, 0);
    }

    private static void undoOfNone() {
        check.says("The latest is undone: how many more can be. NOT: none.");
        TowedBack x = new TowedBack();
        check.due("without water", x.undo(), NOT);
        Check.pour(x, Check.RING);
        check.due("nothing was done", x.undo(), NOT);
        x.turn(0);
        x.turn(0);
        check.due("undo()", x.undo(), 1);
        check.due("undo()", x.undo(), 0);
        check.due("undo()", x.undo(), NOT);
        check.due("and again", x.undo(), NOT);
        check.due("told(9)", x.told(9), 0);
        x.turn(0);
        check.due("undo() itself is not undone", x.undo(), 0);
    }

    private static void quayEdges() {
        check.says("A BOAT's QUAY is a JUNCTION, or NONE (it cannot be undone): what it was. UNKNOWN.");
        TowedBack x = Check.on("j9;b0 1 1;b0 1 1;b0 1 1;");
        check.due("quay(2, 8)", x.quay(2, 8), NONE);
        check.due("quay(2, 0)", x.quay(2, 0), 8);
        for (int j : new int[] {LOWEST, -2, 9, 10, HIGHEST}) check.due("quay(2, " + j + ")", x.quay(2, j), UNKNOWN);
        for (int b : NO_BOATS) {
            check.due("quay(" + b + ", 1)", x.quay(b, 1), UNKNOWN);
            check.due("quay(" + b + ", -1)", x.quay(b, NONE), UNKNOWN);
        }
        check.due("boat(2, 5)", x.boat(2, 5), 0);
        check.due("told(9)", x.told(9), 0);
        check.due("quay(2, -1)", x.quay(2, NONE), 0);
        check.due("quay(2, -1) again", x.quay(2, NONE), NONE);
        x.turn(0);
        x.quay(0, 4);
        x.undo();
        check.due("it cannot be undone", x.boat(0, 5), 4);
    }
}
