/** Promises 30 to 32: seed, keep, goBack. */
public final class DrawsTest {
    private static final int UNKNOWN = -1000000001, OUTSIDE = -1000000002, NOT = -1000000003;
    private static final Check check = new Check();

    public static void main(String[] args) {
        promise30Seed();
        promise31Keep();
        promise32GoBack();
        promise32WhatStays();
        check.end();
    }

    private static void promise30Seed() {
        TowedBack x = new TowedBack();
        check.due("seed(2147483647)", x.seed(2147483647), 0);
        check.due("seed(-1)", x.seed(-1), OUTSIDE);
        check.due("seed(-2147483648)", x.seed(-2147483648), OUTSIDE);
        check.due("seed(3)", x.seed(3), 2147483647);
        check.due("seed(0)", x.seed(0), 3);
        check.due("it cannot be undone", x.undo(), NOT);
        Check.pour(x, "j1;b0 9 0;");
        x.seed(2147483647);
        x.drift(1);
        // 1043980748 (15929, of four 1), then 288979989, then 646343466 (9862, of fifty 12).
        check.due("boat(0, 2)", x.boat(0, 2), 21);
        check.due("the draws from it", x.seed(0), 646343466);
    }

    private static void promise31Keep() {
        TowedBack x = new TowedBack();
        check.due("keep(0) without water", x.keep(0), 1);
        check.due("keep(2)", x.keep(2), UNKNOWN);
        check.due("keep(-1)", x.keep(-1), UNKNOWN);
        Check.pour(x, Check.RING);
        check.due("goBack(0): gone with the water", x.goBack(0), NOT);
        x.step(1);
        check.due("keep(2)", x.keep(2), UNKNOWN);
        check.due("told(9): refused, so nothing changed", x.told(9), 1);
        check.due("keep(1)", x.keep(1), 1);
        check.due("told(9)", x.told(9), 0);
        check.due("undo()", x.undo(), NOT);
        check.due("goBack(0)", x.goBack(0), NOT);
        check.due("goBack(1)", x.goBack(1), 1);
        x.step(1);
        check.due("undo()", x.undo(), 0);
        check.due("told(4)", x.told(4), 1);
    }

    private static void promise32GoBack() {
        TowedBack x = Check.on(Check.RING);
        check.due("goBack(2)", x.goBack(2), UNKNOWN);
        check.due("goBack(-1)", x.goBack(-1), UNKNOWN);
        check.due("goBack(0)", x.goBack(0), NOT);
        x.step(1);
        x.seed(11);
        x.keep(0);
        x.step(1);
        x.turn(0);
        x.seed(22);
        x.keep(1);
        x.drift(5);
        check.due("goBack(0)", x.goBack(0), 1);
        check.due("told(4)", x.told(4), 1);
        check.due("boat(0, 0)", x.boat(0, 0), 1);
        check.due("boat(0, 1)", x.boat(0, 1), 0);
        check.due("boat(0, 2)", x.boat(0, 2), 50);
        check.due("boat(0, 4)", x.boat(0, 4), 1);
        check.due("the seed comes back", x.seed(33), 11);
        check.due("undo()", x.undo(), NOT);
        check.due("goBack(1)", x.goBack(1), 1);
        check.due("told(4)", x.told(4), 2);
        check.due("boat(0, 0)", x.boat(0, 0), 2);
        check.due("boat(0, 1)", x.boat(0, 1), -1);
        check.due("seed(0)", x.seed(0), 22);
        x.forgive(0, 7);
        check.due("goBack(2)", x.goBack(2), UNKNOWN);
        check.due("told(9): refused, so nothing changed", x.told(9), 1);
        check.due("goBack(0), again", x.goBack(0), 1);
        check.due("told(9)", x.told(9), 0);
        check.due("boat(0, 2)", x.boat(0, 2), 50);
        x.weigh(0, 9);
        x.keep(0);
        x.weigh(0, 9);
        x.goBack(0);
        check.due("kept anew", x.boat(0, 2), 59);
    }

    private static void promise32WhatStays() {
        TowedBack x = Check.on(Check.RING);
        x.keep(0);
        x.quay(1, 4);
        x.see(1, 1, 4);
        x.write(1, 3);
        x.feed('j');
        x.step(1);
        x.goBack(0);
        check.due("the quay stays", x.boat(1, 5), 4);
        check.due("what is seen stays", x.told(7), 1);
        check.due("the book stays", x.told(8), 1);
        check.due("the text stays", x.told(3), 1);
        check.due("judge()", x.judge(), -1);
        TowedBack dry = new TowedBack();
        dry.seed(5);
        dry.keep(1);
        dry.seed(6);
        check.due("without water, too", dry.goBack(1), 1);
        check.due("seed(0)", dry.seed(0), 5);
    }
}
