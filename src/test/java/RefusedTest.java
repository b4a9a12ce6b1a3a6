import java.util.ArrayList;
import java.util.List;

/** What is refused, and what is only tried, changes nothing; of several refusals the first in their order is told. */
public final class RefusedTest {
    private static final int NONE = Check.NONE, UNKNOWN = Check.UNKNOWN, OUTSIDE = Check.OUTSIDE, NOT = Check.NOT, FULL = Check.FULL;
    private static final Check check = new Check();

    private interface Call {
        int on(TowedBack x);
    }

    private record Named(String name, Call call, int due) { }

    public static void main(String[] args) {
        orderOfRefusals();
        unknownIsWhatThereIsNot();
        outsideIsAnotherNumber();
        refusedOnNoWater();
        refusedOnARun();
        refusedWhenFull();
        refusedAbove9000();
        refusedBetweenDoneThings();
        triedChangesNothing();
        anythingIsAnswered();
        check.end();
    }

    private static void orderOfRefusals() {
        check.says("REFUSALS, of several the first in this order: UNKNOWN");
        TowedBack x = new TowedBack();
        check.due("outside, not", x.step(61), OUTSIDE);
        check.due("outside, not", x.drift(0), OUTSIDE);
        check.due("unknown, outside", x.where(0, 61, 2), UNKNOWN);
        check.due("unknown, not", x.goBack(2), UNKNOWN);
        for (int k = 0; k < 240; k++) x.feed('x');
        check.due("outside, full", x.feed(256), OUTSIDE);
        x = fullRun();
        check.due("unknown, outside, full", x.see(3, 31, 0), UNKNOWN);
        check.due("unknown, full", x.see(0, 0, 6), UNKNOWN);
        check.due("outside, full", x.see(0, 31, 0), OUTSIDE);
        check.due("full", x.see(0, 30, 0), FULL);
        check.due("unknown, full", x.write(3, 0), UNKNOWN);
        check.due("full", x.write(2, 0), FULL);
        check.due("unknown, outside", x.forgive(3, 0), UNKNOWN);
        check.due("unknown, outside", x.weigh(3, 1000), UNKNOWN);
        check.due("unknown, outside", x.cut(6, 3), UNKNOWN);
        check.due("unknown, outside", x.boat(3, 6), UNKNOWN);
        check.due("unknown, outside", x.least(0, 6, 2), UNKNOWN);
        check.due("unknown, outside", x.changes(61, 3), UNKNOWN);
    }

    private static void unknownIsWhatThereIsNot() {
        check.says("UNKNOWN (a JUNCTION, CUT, BOAT, IMAGE that there is not; one twice, where two are asked)");
        TowedBack x = Check.on("j2;c0 1 5;b0 9 9;");
        check.due("a junction", x.quay(0, 2), UNKNOWN);
        check.due("a junction", x.least(0, 2, 0), UNKNOWN);
        check.due("a junction", x.see(0, 0, 2), UNKNOWN);
        check.due("a junction", x.write(0, 2), UNKNOWN);
        check.due("a cut", x.cut(1, 0), UNKNOWN);
        check.due("a boat", x.boat(1, 0), UNKNOWN);
        check.due("an image", x.keep(2), UNKNOWN);
        check.due("an image", x.goBack(2), UNKNOWN);
        check.due("one twice", x.change(0, 0), UNKNOWN);
    }

    private static void outsideIsAnotherNumber() {
        check.says("OUTSIDE (another number out of its bounds), NOT (not now, as told), FULL.");
        TowedBack x = Check.on("j2;c0 1 5;b0 9 9;");
        check.due("what", x.told(10), OUTSIDE);
        check.due("what", x.cut(0, 3), OUTSIDE);
        check.due("how many steps", x.where(0, 61, 0), OUTSIDE);
        check.due("how much", x.forgive(0, 1000), OUTSIDE);
        check.due("of a hundred", x.mercy(0, 101), OUTSIDE);
        check.due("a seed", x.seed(-1), OUTSIDE);
        check.due("not now", x.undo(), NOT);
        check.due("not now", x.goBack(1), NOT);
    }

    // ---- what is refused changes nothing

    private static List<Named> unknownToAll() {
        List<Named> all = new ArrayList<>();
        for (int b : new int[] {Check.LOWEST, -2, 5, Check.HIGHEST}) {
            int c = b == 5 ? 14 : b, j = b == 5 ? 9 : b;
            all.add(new Named("boat(" + b + ", 0)", x -> x.boat(b, 0), UNKNOWN));
            all.add(new Named("cut(" + c + ", 0)", x -> x.cut(c, 0), UNKNOWN));
            all.add(new Named("forgive(" + b + ", 5)", x -> x.forgive(b, 5), UNKNOWN));
            all.add(new Named("weigh(" + b + ", 5)", x -> x.weigh(b, 5), UNKNOWN));
            all.add(new Named("change(" + b + ", 0)", x -> x.change(b, 0), UNKNOWN));
            all.add(new Named("change(0, " + b + ")", x -> x.change(0, b), UNKNOWN));
            all.add(new Named("turn(" + b + ")", x -> x.turn(b), UNKNOWN));
            all.add(new Named("quay(" + b + ", -1)", x -> x.quay(b, NONE), UNKNOWN));
            all.add(new Named("quay(0, " + j + ")", x -> x.quay(0, j), UNKNOWN));
            all.add(new Named("where(" + b + ", 1, 0)", x -> x.where(b, 1, 0), UNKNOWN));
            all.add(new Named("sits(" + b + ")", x -> x.sits(b), UNKNOWN));
            all.add(new Named("round(" + b + ")", x -> x.round(b), UNKNOWN));
            all.add(new Named("least(" + b + ", 0, 0)", x -> x.least(b, 0, 0), UNKNOWN));
            all.add(new Named("changes(1, " + b + ")", x -> x.changes(1, b), UNKNOWN));
            all.add(new Named("towed(" + b + ")", x -> x.towed(b), UNKNOWN));
            all.add(new Named("see(" + b + ", 0, 0)", x -> x.see(b, 0, 0), UNKNOWN));
            all.add(new Named("see(0, 0, " + j + ")", x -> x.see(0, 0, j), UNKNOWN));
            all.add(new Named("left(" + b + ", 0)", x -> x.left(b, 0), UNKNOWN));
            all.add(new Named("look(" + b + ")", x -> x.look(b), UNKNOWN));
            all.add(new Named("write(" + b + ", 0)", x -> x.write(b, 0), UNKNOWN));
            all.add(new Named("write(0, " + j + ")", x -> x.write(0, j), UNKNOWN));
            all.add(new Named("keep(" + b + ")", x -> x.keep(b), UNKNOWN));
            all.add(new Named("goBack(" + b + ")", x -> x.goBack(b), UNKNOWN));
        }
        all.add(new Named("change(0, 0)", x -> x.change(0, 0), UNKNOWN));
        return all;
    }

    private static List<Named> outsideForAll() {
        List<Named> all = new ArrayList<>();
        for (int far : new int[] {Check.LOWEST, -1, 256, Check.HIGHEST}) {
            all.add(new Named("feed(" + far + ")", x -> x.feed(far), OUTSIDE));
            all.add(new Named("told(" + far + ")", x -> x.told(far), OUTSIDE));
            all.add(new Named("step(" + far + ")", x -> x.step(far), OUTSIDE));
            all.add(new Named("drift(" + far + ")", x -> x.drift(far), OUTSIDE));
            all.add(new Named("dry(" + far + ")", x -> x.dry(far), OUTSIDE));
            all.add(new Named("changes(" + far + ", -1)", x -> x.changes(far, NONE), OUTSIDE));
            all.add(new Named("mercy(" + far + ", 1)", x -> x.mercy(far, 1), OUTSIDE));
            all.add(new Named("mercy(1, " + far + ")", x -> x.mercy(1, far), OUTSIDE));
            if (far < 0) all.add(new Named("seed(" + far + ")", x -> x.seed(far), OUTSIDE));
        }
        return all;
    }

    private static List<Named> outsideForBoats() {
        List<Named> all = new ArrayList<>();
        for (int far : new int[] {Check.LOWEST, -1, 1000, Check.HIGHEST}) {
            all.add(new Named("cut(0, " + far + ")", x -> x.cut(0, far), OUTSIDE));
            all.add(new Named("boat(0, " + far + ")", x -> x.boat(0, far), OUTSIDE));
            all.add(new Named("forgive(0, " + far + ")", x -> x.forgive(0, far), OUTSIDE));
            all.add(new Named("weigh(0, " + far + ")", x -> x.weigh(0, far), OUTSIDE));
            all.add(new Named("where(0, " + far + ", 0)", x -> x.where(0, far, 0), OUTSIDE));
            all.add(new Named("where(0, 0, " + far + ")", x -> x.where(0, 0, far), OUTSIDE));
            all.add(new Named("least(0, 0, " + far + ")", x -> x.least(0, 0, far), OUTSIDE));
            all.add(new Named("see(0, " + far + ", 0)", x -> x.see(0, far, 0), OUTSIDE));
        }
        all.add(new Named("forgive(0, 0)", x -> x.forgive(0, 0), OUTSIDE));
        all.add(new Named("weigh(0, 0)", x -> x.weigh(0, 0), OUTSIDE));
        all.add(new Named("step(0)", x -> x.step(0), OUTSIDE));
        all.add(new Named("drift(0)", x -> x.drift(0), OUTSIDE));
        return all;
    }

    private interface Begun {
        TowedBack make();
    }

    /** Each call on an object of its own, which is then as one without it. */
    private static void changesNothing(String state, Begun begun, List<Named> calls) {
        for (Named one : calls) {
            TowedBack x = begun.make(), twin = begun.make();
            check.due(state + ", " + one.name, one.call.on(x), one.due);
            check.due(state + ", fault() behind " + one.name, x.fault(), twin.fault());
            Snapshot.same(check, state + ", behind " + one.name, x, twin);
        }
    }

    private static void refusedOnNoWater() {
        check.says("What is refused changes nothing.");
        List<Named> calls = unknownToAll();
        calls.addAll(outsideForAll());
        calls.add(new Named("step(1)", x -> x.step(1), NOT));
        calls.add(new Named("drift(60)", x -> x.drift(60), NOT));
        calls.add(new Named("undo()", x -> x.undo(), NOT));
        calls.add(new Named("goBack(0)", x -> x.goBack(0), NOT));
        calls.add(new Named("goBack(1)", x -> x.goBack(1), NOT));
        changesNothing("new", TowedBack::new, calls);
        changesNothing("fed", RefusedTest::fedOnly, calls);
    }

    private static TowedBack fedOnly() {
        TowedBack x = new TowedBack();
        x.seed(9);
        for (char letter : "j3;b0 1 1;".toCharArray()) x.feed(letter);
        return x;
    }

    private static void refusedOnARun() {
        check.says("What is refused changes nothing.");
        List<Named> calls = unknownToAll();
        calls.addAll(outsideForAll());
        calls.addAll(outsideForBoats());
        calls.add(new Named("goBack(0)", x -> x.goBack(0), NOT));
        changesNothing("on a run", RefusedTest::run, calls);
    }

    private static TowedBack run() {
        TowedBack x = Check.on(Check.RING);
        x.seed(12);
        x.step(1);
        x.keep(1);
        x.quay(1, 5);
        x.drift(2);
        x.turn(0);
        x.see(0, 2, 2);
        x.write(2, 1);
        x.feed('j');
        x.feed('1');
        x.feed(';');
        return x;
    }

    private static void refusedWhenFull() {
        check.says("What is refused changes nothing.");
        List<Named> calls = new ArrayList<>();
        calls.add(new Named("see(0, 0, 0)", x -> x.see(0, 0, 0), FULL));
        calls.add(new Named("see(2, 30, 5)", x -> x.see(2, 30, 5), FULL));
        calls.add(new Named("see(2, 31, 5)", x -> x.see(2, 31, 5), OUTSIDE));
        calls.add(new Named("see(3, 30, 5)", x -> x.see(3, 30, 5), UNKNOWN));
        calls.add(new Named("write(0, 0)", x -> x.write(0, 0), FULL));
        calls.add(new Named("write(2, 5)", x -> x.write(2, 5), FULL));
        calls.add(new Named("write(2, 6)", x -> x.write(2, 6), UNKNOWN));
        changesNothing("full", RefusedTest::fullRun, calls);
        List<Named> letters = new ArrayList<>();
        letters.add(new Named("feed(106)", x -> x.feed('j'), FULL));
        letters.add(new Named("feed(0)", x -> x.feed(0), FULL));
        letters.add(new Named("feed(256)", x -> x.feed(256), OUTSIDE));
        changesNothing("full text", RefusedTest::fullText, letters);
    }

    private static TowedBack fullRun() {
        TowedBack x = Check.on(Check.RING);
        for (int k = 0; k < 6; k++) x.see(k % 3, k, k % 2);
        for (int k = 0; k < 15; k++) x.write(2, 2);
        for (int k = 0; k < 3; k++) x.step(1);
        return x;
    }

    private static TowedBack fullText() {
        TowedBack x = new TowedBack();
        String text = "j3;" + Check.repeat(" ", 230) + "b2 7 7;";
        for (char letter : text.toCharArray()) x.feed(letter);
        return x;
    }

    private static void refusedAbove9000() {
        check.says("What is refused changes nothing.");
        List<Named> calls = new ArrayList<>();
        calls.add(new Named("step(1)", x -> x.step(1), FULL));
        calls.add(new Named("step(60)", x -> x.step(60), FULL));
        calls.add(new Named("drift(1)", x -> x.drift(1), FULL));
        calls.add(new Named("drift(60)", x -> x.drift(60), FULL));
        calls.add(new Named("step(61)", x -> x.step(61), OUTSIDE));
        changesNothing("above 9000", RefusedTest::above9000, calls);
    }

    private static TowedBack above9000() {
        TowedBack x = Check.on("j2;c0 1 0;b0 9 0;b1 9 0;");
        x.seed(4);
        for (int k = 0; k < 151; k++) x.step(60);
        return x;
    }

    /** With twenty to undo, a refused one must not push the oldest out. */
    private static void refusedBetweenDoneThings() {
        check.says("What is refused changes nothing.");
        List<Named> calls = new ArrayList<>();
        calls.add(new Named("step(61)", x -> x.step(61), OUTSIDE));
        calls.add(new Named("drift(0)", x -> x.drift(0), OUTSIDE));
        calls.add(new Named("forgive(0, 0)", x -> x.forgive(0, 0), OUTSIDE));
        calls.add(new Named("weigh(1, 1000)", x -> x.weigh(1, 1000), OUTSIDE));
        calls.add(new Named("forgive(2, 1)", x -> x.forgive(2, 1), UNKNOWN));
        calls.add(new Named("weigh(-1, 1)", x -> x.weigh(-1, 1), UNKNOWN));
        calls.add(new Named("change(1, 1)", x -> x.change(1, 1), UNKNOWN));
        calls.add(new Named("turn(2)", x -> x.turn(2), UNKNOWN));
        calls.add(new Named("keep(2)", x -> x.keep(2), UNKNOWN));
        calls.add(new Named("goBack(0)", x -> x.goBack(0), NOT));
        calls.add(new Named("goBack(-1)", x -> x.goBack(-1), UNKNOWN));
        changesNothing("twenty", RefusedTest::twenty, calls);
    }

    private static TowedBack twenty() {
        TowedBack x = Check.on("j2;c0 1 0;b0 99 1;b1 9 1;");
        for (int k = 0; k < 5; k++) {
            x.step(1);
            x.turn(0);
            x.weigh(1, 7);
            x.change(0, 1);
        }
        return x;
    }

    // ---- what is tried changes nothing

    private static void triedChangesNothing() {
        check.says("TRIED from now; nothing changes by it.");
        for (int b = 0; b < 3; b++) {
            for (int what = 0; what < 12; what++) {
                TowedBack x = run(), twin = run();
                tryOut(x, b, what);
                check.due("fault() behind trial " + what, x.fault(), twin.fault());
                Snapshot.same(check, "behind trial " + what + " of " + b, x, twin);
            }
        }
    }

    private static void tryOut(TowedBack x, int b, int what) {
        switch (what) {
            case 0: x.where(b, 60, 0); break;
            case 1: x.where(b, 60, 1); break;
            case 2: x.sits(b); break;
            case 3: x.round(b); break;
            case 4: x.least(b, 4, 0); break;
            case 5: x.least(b, 4, 1); break;
            case 6: x.changes(60, b); break;
            case 7: x.dry(60); break;
            case 8: x.towed(b); break;
            case 9: x.left(b, 0); break;
            case 10: x.look(b); break;
            default: x.mercy(60, 50);
        }
    }

    // ---- whatever is asked, an answer comes

    private static final int[] STRANGE = {Check.LOWEST, -1000000004, -1000000001, -256, -2, -1, 0, 1, 4, 5, 8, 9, 14, 30, 31, 60, 61, 200, 240, 255, 256, 999, 1000, 65536, Check.HIGHEST};

    /** Every call with strange numbers, as far as an object is used: nothing may be thrown. */
    private static void anythingIsAnswered() {
        check.says("An object is used for at most 512 calls after it has been made");
        Begun[] states = {TowedBack::new, RefusedTest::fedOnly, RefusedTest::run, RefusedTest::fullRun, RefusedTest::twenty};
        for (Begun begun : states) {
            for (int p : STRANGE) {
                TowedBack x = begun.make();
                strangeAlone(x, p);
                for (int q : STRANGE) strange(x, p, q);
                x.water();
                check.due("it still counts its boats", Check.pour(x, "j1;b0 1 1;"), 1);
            }
        }
    }

    private static void strangeAlone(TowedBack x, int p) {
        x.feed(p);
        x.told(p);
        x.step(p);
        x.turn(p);
        x.drift(p);
        x.sits(p);
        x.round(p);
        x.dry(p);
        x.towed(p);
        x.look(p);
        x.seed(p);
        x.keep(p);
        x.goBack(p);
    }

    private static void strange(TowedBack x, int p, int q) {
        x.cut(p, q);
        x.boat(p, q);
        x.forgive(p, q);
        x.weigh(q, p);
        x.change(p, q);
        x.quay(p, q);
        x.where(p, q, p);
        x.least(p, q, 0);
        x.changes(p, q);
        x.mercy(p, q);
        x.see(p, q, q);
        x.left(p, q);
        x.write(p, q);
    }
}
