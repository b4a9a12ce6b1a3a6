/** Promises 8 to 15: step, forgive, weigh, change, turn, drift, undo, quay. */
public final class DoneTest {
    private static final int UNKNOWN = -1000000001, OUTSIDE = -1000000002, NOT = -1000000003, FULL = -1000000004;
    private static final Check check = new Check();

    public static void main(String[] args) {
        promise8WhichCut();
        promise8PullAndWear();
        promise8FiveBoats();
        promise8Sits();
        promise8Refusals();
        promise8Full();
        promise9Forgive();
        promise10Weigh();
        promise11Change();
        promise12Turn();
        promise13Draws();
        promise13Bounds();
        promise13Refusals();
        promise14Undo();
        promise14Twenty();
        promise15Quay();
        check.end();
    }

    private static void promise8WhichCut() {
        TowedBack x = Check.on("j5;c0 4 7;c3 0 7;c0 2 8;c3 1 9;c3 2 9;b0 900 0;");
        check.due("step(1): of like ones the least junction", x.step(1), 0);
        check.due("boat(0, 0)", x.boat(0, 0), 3);
        check.due("boat(0, 1)", x.boat(0, 1), 0);
        check.due("step(1): not back, though that is least hard; at 1 it must sit", x.step(1), 1);
        check.due("boat(0, 0)", x.boat(0, 0), 1);
        check.due("boat(0, 1)", x.boat(0, 1), 3);
        check.due("step(60)", x.step(60), 1);
        check.due("boat(0, 0): it sits still", x.boat(0, 0), 1);
        check.due("boat(0, 1): and comes from where it came", x.boat(0, 1), 3);
        check.due("boat(0, 4)", x.boat(0, 4), 2);
        check.due("told(4)", x.told(4), 62);
    }

    private static void promise8PullAndWear() {
        TowedBack x = Check.on("j4;c0 1 10;c1 2 10;c2 3 0;b0 11 99;b0 10 0;b0 21 10;b0 12 1;");
        check.due("step(1)", x.step(1), 1 + 2);
        check.due("pulled by one more than hard: goes", x.boat(0, 0), 1);
        check.due("its pull is 0 at least", x.boat(0, 2), 0);
        check.due("pulled by as much as hard: sits", x.boat(1, 0), 0);
        check.due("boat(1, 1)", x.boat(1, 1), -1);
        check.due("boat(1, 2): no wear where it sits", x.boat(1, 2), 10);
        check.due("boat(1, 4)", x.boat(1, 4), 0);
        check.due("boat(2, 2)", x.boat(2, 2), 11);
        check.due("boat(3, 2)", x.boat(3, 2), 11);
        check.due("step(2)", x.step(2), 15);
        check.due("boat(2, 0)", x.boat(2, 0), 3);
        check.due("boat(2, 2)", x.boat(2, 2), 0);
        check.due("boat(3, 0)", x.boat(3, 0), 3);
        check.due("boat(3, 2)", x.boat(3, 2), 9);
    }

    /** Five boats on a ring of nine, one junction apart: none may be mistaken for another. */
    private static void promise8FiveBoats() {
        TowedBack x = Check.on("j9;c0 1 1;c1 2 2;c2 3 3;c3 4 4;c4 5 5;c5 6 6;c6 7 7;c7 8 8;c8 0 9;"
                + "b0 100 1;b1 200 2;b2 300 3;b3 400 4;b8 500 5;");
        check.due("step(1): from 1, 2, 3 back down, as that is least hard", x.step(1), 0);
        int[] at = {1, 0, 1, 2, 7}, from = {0, 1, 2, 3, 8}, pull = {99, 198, 297, 396, 495};
        for (int b = 0; b < 5; b++) {
            check.due("boat(" + b + ", 0)", x.boat(b, 0), at[b]);
            check.due("boat(" + b + ", 1)", x.boat(b, 1), from[b]);
            check.due("boat(" + b + ", 2)", x.boat(b, 2), pull[b]);
            check.due("boat(" + b + ", 3)", x.boat(b, 3), b + 1);
            check.due("boat(" + b + ", 4)", x.boat(b, 4), 1);
        }
        check.due("told(4)", x.told(4), 1);
        check.due("step(1)", x.step(1), 0);
        check.due("boat(1, 0): from 1 on to 8", x.boat(1, 0), 8);
        check.due("boat(4, 0)", x.boat(4, 0), 6);
        check.due("step(1)", x.step(1), 0);
        check.due("boat(1, 0): from 0 on to 7", x.boat(1, 0), 7);
    }

    private static void promise8Sits() {
        TowedBack x = Check.on("j2;c0 1 5;b0 5 0;b1 6 0;");
        check.due("told(5)", x.told(5), 1);
        check.due("step(1)", x.step(1), 3);
        x.weigh(0, 1);
        check.due("told(5): it may go on later", x.told(5), 2);
        check.due("step(1)", x.step(1), 3);
        check.due("boat(0, 0)", x.boat(0, 0), 1);
        TowedBack none = Check.on("j1;");
        check.due("step(5) without boats", none.step(5), 0);
        check.due("told(4)", none.told(4), 5);
        check.due("told(9)", none.told(9), 1);
        TowedBack alone = Check.on("j1;b0 999 0;");
        check.due("step(1) without cuts", alone.step(1), 1);
        check.due("boat(0, 4)", alone.boat(0, 4), 0);
    }

    private static void promise8Refusals() {
        TowedBack x = new TowedBack();
        check.due("step(0) without water", x.step(0), OUTSIDE);
        check.due("step(61) without water", x.step(61), OUTSIDE);
        check.due("step(60) without water", x.step(60), NOT);
        Check.pour(x, Check.RING);
        check.due("step(0)", x.step(0), OUTSIDE);
        check.due("step(-1)", x.step(-1), OUTSIDE);
        check.due("step(61)", x.step(61), OUTSIDE);
        check.due("told(4)", x.told(4), 0);
        check.due("told(9)", x.told(9), 0);
        check.due("step(60)", x.step(60), 3);
    }

    private static void promise8Full() {
        TowedBack x = Check.on("j2;c0 1 5;b0 6 0;");
        for (int k = 0; k < 150; k++) x.step(60);
        check.due("told(4)", x.told(4), 9000);
        check.due("step(1) at 9000", x.step(1), 1);
        check.due("told(4)", x.told(4), 9001);
        check.due("step(1) above 9000", x.step(1), FULL);
        check.due("drift(1) above 9000", x.drift(1), FULL);
        check.due("step(0) above 9000", x.step(0), OUTSIDE);
        check.due("drift(61) above 9000", x.drift(61), OUTSIDE);
        check.due("undo()", x.undo(), 19);
        check.due("drift(60) at 9000", x.drift(60), 1);
        check.due("told(4)", x.told(4), 9060);
        check.due("drift(1) above 9000", x.drift(1), FULL);
    }

    private static void promise9Forgive() {
        TowedBack x = Check.on("j2;c0 1 5;b0 600 0;b0 7 0;");
        check.due("forgive(0, 1)", x.forgive(0, 1), 599);
        check.due("forgive(1, 8)", x.forgive(1, 8), 0);
        check.due("forgive(1, 1)", x.forgive(1, 1), 0);
        check.due("told(9)", x.told(9), 3);
        check.due("forgive(0, 999)", x.forgive(0, 999), 0);
        check.due("forgive(2, 1)", x.forgive(2, 1), UNKNOWN);
        check.due("forgive(-1, 0)", x.forgive(-1, 0), UNKNOWN);
        check.due("forgive(0, 0)", x.forgive(0, 0), OUTSIDE);
        check.due("forgive(0, 1000)", x.forgive(0, 1000), OUTSIDE);
        check.due("told(9)", x.told(9), 4);
        check.due("told(5)", x.told(5), 3);
    }

    private static void promise10Weigh() {
        TowedBack x = Check.on("j2;c0 1 5;b0 600 0;b0 7 0;");
        check.due("weigh(0, 1)", x.weigh(0, 1), 601);
        check.due("weigh(0, 399)", x.weigh(0, 399), 999);
        check.due("weigh(0, 1)", x.weigh(0, 1), 999);
        check.due("weigh(1, 999)", x.weigh(1, 999), 999);
        check.due("weigh(2, 1)", x.weigh(2, 1), UNKNOWN);
        check.due("weigh(-1, 0)", x.weigh(-1, 0), UNKNOWN);
        check.due("weigh(0, 0)", x.weigh(0, 0), OUTSIDE);
        check.due("weigh(0, 1000)", x.weigh(0, 1000), OUTSIDE);
        check.due("told(9)", x.told(9), 4);
    }

    private static void promise11Change() {
        TowedBack x = Check.on("j2;c0 1 5;b0 600 1;b1 7 2;b1 8 3;");
        check.due("change(0, 2)", x.change(0, 2), 8);
        check.due("boat(2, 2)", x.boat(2, 2), 600);
        check.due("boat(1, 2)", x.boat(1, 2), 7);
        check.due("boat(0, 3): each wears as it did", x.boat(0, 3), 1);
        check.due("boat(2, 3)", x.boat(2, 3), 3);
        check.due("boat(0, 0)", x.boat(0, 0), 0);
        check.due("change(1, 1)", x.change(1, 1), UNKNOWN);
        check.due("change(3, 0)", x.change(3, 0), UNKNOWN);
        check.due("change(0, -1)", x.change(0, -1), UNKNOWN);
        check.due("told(9)", x.told(9), 1);
        check.due("undo()", x.undo(), 0);
        check.due("boat(0, 2)", x.boat(0, 2), 600);
        check.due("boat(2, 2)", x.boat(2, 2), 8);
    }

    private static void promise12Turn() {
        TowedBack x = Check.on("j2;c0 1 5;b0 600 1;");
        check.due("turn(0)", x.turn(0), -1);
        x.step(1);
        check.due("turn(0)", x.turn(0), 0);
        check.due("boat(0, 1)", x.boat(0, 1), -1);
        check.due("told(5)", x.told(5), 0);
        x.step(1);
        check.due("boat(0, 0): it could go back", x.boat(0, 0), 0);
        check.due("turn(1)", x.turn(1), UNKNOWN);
        check.due("turn(-1)", x.turn(-1), UNKNOWN);
        check.due("told(9)", x.told(9), 4);
    }

    /** The draws by hand: from the seed 0 the first three are 12345, 1406932606, 654583775. */
    private static void promise13Draws() {
        TowedBack x = Check.on("j2;c0 1 50;b0 40 0;b0 30 0;");
        check.due("drift(1): 12345 / 65536 is 0, so one is forgiven", x.drift(1), 3);
        check.due("1406932606 / 65536 is 21468, of two: boat 0", x.boat(1, 2), 30);
        check.due("654583775 / 65536 is 9988, of fifty: 38", x.boat(0, 2), 2);
        check.due("seed(0)", x.seed(0), 654583775);
        check.due("told(4)", x.told(4), 1);
    }

    private static void promise13Bounds() {
        // 1: 1103527590 / 65536 is 16838, of four 2: nothing is done and nothing more drawn.
        TowedBack x = Check.on("j2;c0 1 50;b0 51 7;");
        x.seed(1);
        check.due("drift(1)", x.drift(1), 1);
        check.due("boat(0, 0)", x.boat(0, 0), 1);
        check.due("boat(0, 2)", x.boat(0, 2), 44);
        check.due("seed(0)", x.seed(0), 1103527590);
        // 16: 476387081 / 65536 is 7269, of four 1; 32261 of two 1; 11999 of fifty 49.
        TowedBack more = Check.on("j2;c0 1 99;b0 5 0;b0 980 0;");
        more.seed(16);
        check.due("drift(1)", more.drift(1), 3);
        check.due("boat(0, 2)", more.boat(0, 2), 5);
        check.due("boat(1, 2): 999 at most", more.boat(1, 2), 999);
        // 25: 27741 of four 1; 21949 of two 1; 13131 of fifty 31: ahead of the step, so that it goes by it.
        TowedBack ahead = Check.on("j2;c0 1 99;b0 5 0;b0 69 7;");
        ahead.seed(25);
        ahead.drift(1);
        check.due("boat(1, 0)", ahead.boat(1, 0), 1);
        check.due("boat(1, 2)", ahead.boat(1, 2), 93);
        TowedBack none = Check.on("j2;c0 1 50;");
        none.seed(9);
        check.due("drift(60) without boats", none.drift(60), 0);
        check.due("told(4)", none.told(4), 60);
        check.due("no boats, no draws", none.seed(0), 9);
    }

    private static void promise13Refusals() {
        TowedBack x = new TowedBack();
        check.due("drift(0) without water", x.drift(0), OUTSIDE);
        check.due("drift(1) without water", x.drift(1), NOT);
        Check.pour(x, Check.RING);
        check.due("drift(0)", x.drift(0), OUTSIDE);
        check.due("drift(61)", x.drift(61), OUTSIDE);
        check.due("told(4)", x.told(4), 0);
        check.due("told(9)", x.told(9), 0);
        check.due("seed(0)", x.seed(0), 0);
    }

    private static void promise14Undo() {
        TowedBack x = Check.on(Check.RING);
        check.due("undo() of nothing", x.undo(), NOT);
        x.step(2);
        x.forgive(0, 5);
        x.weigh(1, 5);
        x.change(0, 1);
        x.turn(0);
        x.seed(0);
        x.drift(3);
        check.due("told(9)", x.told(9), 6);
        int seed = x.seed(0);
        x.seed(seed);
        check.due("undo() of drift()", x.undo(), 5);
        check.due("told(4)", x.told(4), 2);
        check.due("boat(0, 1)", x.boat(0, 1), -1);
        check.due("the seed stays", x.seed(seed), seed);
        check.due("undo() of turn()", x.undo(), 4);
        check.due("boat(0, 1)", x.boat(0, 1), 1);
        check.due("boat(0, 2)", x.boat(0, 2), 26);
        check.due("undo() of change()", x.undo(), 3);
        check.due("boat(0, 2)", x.boat(0, 2), 35);
        check.due("boat(1, 2)", x.boat(1, 2), 26);
        check.due("undo() of weigh()", x.undo(), 2);
        check.due("boat(1, 2)", x.boat(1, 2), 21);
        check.due("undo() of forgive()", x.undo(), 1);
        check.due("boat(0, 2)", x.boat(0, 2), 40);
        check.due("undo() of step()", x.undo(), 0);
        check.due("told(4)", x.told(4), 0);
        check.due("boat(0, 0)", x.boat(0, 0), 0);
        check.due("boat(0, 1)", x.boat(0, 1), -1);
        check.due("boat(0, 2)", x.boat(0, 2), 60);
        check.due("boat(0, 4)", x.boat(0, 4), 0);
        check.due("undo()", x.undo(), NOT);
    }

    private static void promise14Twenty() {
        TowedBack x = Check.on("j1;b0 999 0;");
        for (int k = 1; k <= 33; k++) x.forgive(0, 1);
        check.due("told(9)", x.told(9), 20);
        for (int k = 19; k >= 0; k--) {
            check.due("undo()", x.undo(), k);
            check.due("boat(0, 2)", x.boat(0, 2), 999 - 13 - k);
        }
        check.due("undo(): the oldest are lost", x.undo(), NOT);
        check.due("boat(0, 2)", x.boat(0, 2), 986);
        x.forgive(0, 6);
        check.due("told(9)", x.told(9), 1);
        check.due("undo()", x.undo(), 0);
        check.due("boat(0, 2)", x.boat(0, 2), 986);
    }

    private static void promise15Quay() {
        TowedBack x = Check.on(Check.RING);
        check.due("quay(0, 5)", x.quay(0, 5), -1);
        check.due("quay(0, 0)", x.quay(0, 0), 5);
        check.due("quay(0, -1)", x.quay(0, -1), 0);
        check.due("quay(0, 3)", x.quay(0, 3), -1);
        check.due("quay(0, 6)", x.quay(0, 6), UNKNOWN);
        check.due("quay(0, -2)", x.quay(0, -2), UNKNOWN);
        check.due("quay(3, 0)", x.quay(3, 0), UNKNOWN);
        check.due("quay(-1, 0)", x.quay(-1, 0), UNKNOWN);
        check.due("boat(0, 5)", x.boat(0, 5), 3);
        check.due("it cannot be undone", x.undo(), NOT);
        x.keep(0);
        x.step(1);
        x.quay(0, 2);
        x.undo();
        check.due("boat(0, 5) behind undo()", x.boat(0, 5), 2);
        x.goBack(0);
        check.due("boat(0, 5) behind goBack()", x.boat(0, 5), 2);
    }
}
