/** Promises 1 to 7: a new object, feed, water, fault, told, cut, boat. */
public final class WaterTest {
    private static final int UNKNOWN = -1000000001, OUTSIDE = -1000000002, NOT = -1000000003, FULL = -1000000004;
    private static final Check check = new Check();

    public static void main(String[] args) {
        promise1NewObject();
        promise2Feed();
        promise3Water();
        promise3BeginsAnew();
        promise3FaultChangesNothingElse();
        promise3NothingIsLeftOfATextWithAFault();
        promise3BlanksAloneAreAnEmptyText();
        promise4FaultOne();
        promise4FaultTwo();
        promise4FaultThree();
        promise4FaultFour();
        promise4NoFault();
        promise5Told();
        promise6Cut();
        promise7Boat();
        check.end();
    }

    private static void promise1NewObject() {
        TowedBack x = new TowedBack();
        for (int what = 0; what <= 9; what++) check.due("new: told(" + what + ")", x.told(what), 0);
        check.due("new: fault()", x.fault(), -1);
        check.due("new: boat(0, 0)", x.boat(0, 0), UNKNOWN);
        check.due("new: cut(0, 0)", x.cut(0, 0), UNKNOWN);
        check.due("new: quay(0, -1)", x.quay(0, -1), UNKNOWN);
        check.due("new: step(1)", x.step(1), NOT);
        check.due("new: drift(1)", x.drift(1), NOT);
        check.due("new: undo()", x.undo(), NOT);
        check.due("new: goBack(0)", x.goBack(0), NOT);
        check.due("new: goBack(1)", x.goBack(1), NOT);
        check.due("new: judge()", x.judge(), -1);
        check.due("new: tear()", x.tear(), 0);
        check.due("new: dry(60)", x.dry(60), 0);
        check.due("new: changes(60, -1)", x.changes(60, -1), 0);
        check.due("new: changes(0, 0)", x.changes(0, 0), UNKNOWN);
        check.due("new: seed(5)", x.seed(5), 0);
    }

    private static void promise2Feed() {
        TowedBack x = new TowedBack();
        check.due("feed(-1)", x.feed(-1), OUTSIDE);
        check.due("feed(256)", x.feed(256), OUTSIDE);
        check.due("feed(0)", x.feed(0), 1);
        check.due("feed(255)", x.feed(255), 2);
        for (int k = 3; k <= 240; k++) check.due("feed(32), the " + k + "th", x.feed(32), k);
        check.due("feed(32), the 241st", x.feed(32), FULL);
        check.due("feed(256) when full", x.feed(256), OUTSIDE);
        check.due("told(3) when full", x.told(3), 240);
        check.due("water()", x.water(), -11);
        check.due("fault()", x.fault(), 0);
        check.due("told(3) behind it", x.told(3), 0);
        check.due("feed(32)", x.feed(32), 1);
    }

    private static void promise3Water() {
        TowedBack x = new TowedBack();
        check.due("water() of nothing", x.water(), 0);
        check.due("no boats", Check.pour(x, "j1;"), 0);
        check.due("told(0)", x.told(0), 1);
        check.due("five boats", Check.pour(x, "j9;" + Check.repeat("b8 999 99;", 5)), 5);
        check.due("blanks everywhere", Check.pour(x, "  j 2 ; c 0 1 7 ;b1 007 03; "), 1);
        check.due("cut(0, 2)", x.cut(0, 2), 7);
        check.due("boat(0, 2)", x.boat(0, 2), 7);
        check.due("boat(0, 3)", x.boat(0, 3), 3);
        check.due("a full text", Check.pour(x, "j9;" + Check.repeat(" ", 227) + "b0 999 99;"), 1);
        check.due("water() of nothing", x.water(), 0);
        check.due("told(0) of nothing", x.told(0), 0);
        check.due("told(2) of nothing", x.told(2), 0);
        check.due("fault() of nothing", x.fault(), -1);
        check.due("step(1) of nothing", x.step(1), NOT);
    }

    private static void promise3BeginsAnew() {
        TowedBack x = Check.on(Check.RING);
        x.seed(77);
        x.step(3);
        x.quay(0, 1);
        x.see(0, 1, 1);
        x.write(0, 1);
        x.keep(0);
        x.turn(0);
        check.due("water() again", Check.pour(x, Check.RING), 3);
        check.due("told(4)", x.told(4), 0);
        check.due("boat(0, 0)", x.boat(0, 0), 0);
        check.due("boat(0, 1)", x.boat(0, 1), -1);
        check.due("boat(0, 2)", x.boat(0, 2), 60);
        check.due("boat(0, 4)", x.boat(0, 4), 0);
        check.due("boat(0, 5)", x.boat(0, 5), -1);
        check.due("told(7)", x.told(7), 0);
        check.due("told(8)", x.told(8), 0);
        check.due("told(9)", x.told(9), 0);
        check.due("undo()", x.undo(), NOT);
        check.due("goBack(0)", x.goBack(0), NOT);
        check.due("seed(0)", x.seed(0), 77);
    }

    private static void promise3FaultChangesNothingElse() {
        TowedBack x = Check.on(Check.RING);
        x.keep(1);
        x.step(2);
        x.quay(0, 1);
        x.see(0, 1, 1);
        x.write(0, 1);
        check.due("a text with a fault", Check.pour(x, "j3;c0 1 5;b2 9 9;b3 1 1;"), -12);
        check.due("told(0)", x.told(0), 6);
        check.due("told(1)", x.told(1), 6);
        check.due("told(2)", x.told(2), 3);
        check.due("told(3)", x.told(3), 0);
        check.due("told(4)", x.told(4), 2);
        check.due("told(7)", x.told(7), 1);
        check.due("told(8)", x.told(8), 1);
        check.due("told(9)", x.told(9), 1);
        check.due("cut(0, 2)", x.cut(0, 2), 5);
        check.due("boat(0, 0)", x.boat(0, 0), 2);
        check.due("boat(0, 5)", x.boat(0, 5), 1);
        check.due("step(1)", x.step(1), 2);
        check.due("boat(0, 0)", x.boat(0, 0), 0);
        check.due("goBack(1)", x.goBack(1), 1);
        check.due("told(4)", x.told(4), 0);
    }

    private static void promise3NothingIsLeftOfATextWithAFault() {
        TowedBack x = new TowedBack();
        check.due("a fault at the end", Check.pour(x, "j3;c0 1 5;c1 2 5;b2 9 9;x"), -11);
        check.due("told(0)", x.told(0), 0);
        check.due("told(1)", x.told(1), 0);
        check.due("the next text", Check.pour(x, "j2;c1 0 7;b0 9 9;b1 8 8;"), 2);
        check.due("told(0)", x.told(0), 2);
        check.due("told(1)", x.told(1), 1);
        check.due("cut(0, 2)", x.cut(0, 2), 7);
        check.due("the third text", Check.pour(x, "j4;c2 3 1;b3 1 1;"), 1);
        check.due("told(1)", x.told(1), 1);
        check.due("cut(0, 0)", x.cut(0, 0), 2);
        check.due("told(6)", x.told(6), 8);
        check.due("an empty text", x.water(), 0);
        check.due("told(1)", x.told(1), 0);
        check.due("told(2)", x.told(2), 0);
    }

    private static void promise3BlanksAloneAreAnEmptyText() {
        check.due("one blank", Check.pour(new TowedBack(), " "), 0);
        check.due("240 blanks", Check.pour(new TowedBack(), Check.repeat(" ", 240)), 0);
        TowedBack x = Check.on(Check.RING);
        x.step(1);
        x.see(0, 1, 1);
        x.write(0, 1);
        x.keep(0);
        Check.pour(x, "j1;x");
        check.due("fault()", x.fault(), 3);
        check.due("blanks on a water", Check.pour(x, "   "), 0);
        check.due("fault() of blanks", x.fault(), -1);
        for (int what = 0; what < 10; what++) check.due("told(" + what + ")", x.told(what), 0);
        check.due("step(1)", x.step(1), NOT);
        check.due("goBack(0)", x.goBack(0), NOT);
        check.due("boat(0, 0)", x.boat(0, 0), UNKNOWN);
        check.faulty(" ;", 1, 1);
        check.faulty("  " + (char) 9, 1, 2);
        check.faulty(" 7", 1, 1);
        check.faulty("  j", 1, 3);
    }

    private static void promise4FaultOne() {
        check.faulty("c0 1 2;", 1, 0);
        check.faulty("  b0 0 0;", 1, 2);
        check.faulty(";", 1, 0);
        check.faulty("5", 1, 0);
        check.faulty("J5;", 1, 0);
        check.faulty("j", 1, 1);
        check.faulty("j  ", 1, 3);
        check.faulty("jj", 1, 1);
        check.faulty("j;", 1, 1);
        check.faulty("j5", 1, 2);
        check.faulty("j5c", 1, 2);
        check.faulty("j5 5;", 1, 3);
        check.faulty("j5;;", 1, 3);
        check.faulty("j5;5", 1, 3);
        check.faulty("j5;1234", 1, 3);
        check.faulty("j5;C0 1 2;", 1, 3);
        check.faulty("j5;x", 1, 3);
        check.faulty("j5;c0 1;", 1, 7);
        check.faulty("j5;c0 1 2 3;", 1, 10);
        check.faulty("j5;c0 1 2", 1, 9);
        check.faulty("j5;c0,1 2;", 1, 5);
        check.faulty("j5;c0 -1 2;", 1, 6);
        check.faulty("j5;b0 1;", 1, 7);
        check.faulty("j5;b0 1 2j", 1, 9);
        check.faulty("j5;b" + (char) 9 + "0 1 2;", 1, 4);
        check.faulty("j5;b" + (char) 0 + "0 1 2;", 1, 4);
        check.faulty("j5;b" + (char) 255 + "0 1 2;", 1, 4);
        check.faulty("j5 ; " + (char) 10, 1, 5);
    }

    private static void promise4FaultTwo() {
        check.faulty("j0;", 2, 1);
        check.faulty("j10;", 2, 1);
        check.faulty("j 0001;", 2, 2);
        check.faulty("j10x", 2, 1);
        check.faulty("j2;c2 0 1;", 2, 4);
        check.faulty("j2;c9 x", 2, 4);
        check.faulty("j2;c0 2 1;", 2, 6);
        check.faulty("j2;c0 0000 1;", 2, 6);
        check.faulty("j2;c0 1 100;", 2, 8);
        check.faulty("j2;c0 1 0099;", 2, 8);
        check.faulty("j2;b2 1 1;", 2, 4);
        check.faulty("j2;b0 1000 1;", 2, 6);
        check.faulty("j2;b0 12345678901234567890 1;", 2, 6);
        check.faulty("j2;b0 999 100;", 2, 10);
        check.faulty("j2;b0 0 100", 2, 8);
    }

    private static void promise4FaultThree() {
        String cuts = "c0 1 0;c0 2 0;c0 3 0;c0 4 0;c0 5 0;c0 6 0;c0 7 0;c0 8 0;c1 2 0;c1 3 0;c1 4 0;c1 5 0;c1 6 0;c1 7 0;";
        check.faulty("j1;j", 3, 3);
        check.faulty("j1;j1;", 3, 3);
        check.faulty("j2;c0 1 0; j", 3, 11);
        check.faulty("j9;" + cuts + "c", 3, 3 + cuts.length());
        check.faulty("j9;" + cuts + " c0 0 0;", 3, 4 + cuts.length());
        check.faulty("j9;" + Check.repeat("b0 0 0;", 5) + "b", 3, 38);
        check.faulty("j9;" + Check.repeat("b0 0 0;", 5) + "b9 0 0;", 3, 38);
        TowedBack x = new TowedBack();
        check.due("14 cuts, five boats", Check.pour(x, "j9;" + cuts + Check.repeat("b0 0 0;", 5)), 5);
        check.due("told(1)", x.told(1), 14);
    }

    private static void promise4FaultFour() {
        check.faulty("j2;c0 0 1;", 4, 6);
        check.faulty("j2;c0 0", 4, 6);
        check.faulty("j2;c1 001 100;", 4, 6);
        check.faulty("j2;c0 1 1;c0 1 1;", 4, 13);
        check.faulty("j2;c0 1 1;c1 0 1;", 4, 13);
        check.faulty("j3;c0 1 1;c1 2 1;b0 1 1;c 2  1 200;", 4, 29);
    }

    private static void promise4NoFault() {
        TowedBack x = new TowedBack();
        Check.pour(x, "x");
        check.due("fault()", x.fault(), 0);
        check.due("fault() again", x.fault(), 0);
        x.feed('j');
        check.due("fault() while fed", x.fault(), 0);
        x.feed('1');
        x.feed(';');
        check.due("water()", x.water(), 0);
        check.due("fault() of a good text", x.fault(), -1);
        Check.pour(x, "j1;x");
        check.due("fault()", x.fault(), 3);
        x.water();
        check.due("fault() of an empty text", x.fault(), -1);
    }

    private static void promise5Told() {
        TowedBack x = Check.on(Check.RING);
        check.due("told(-1)", x.told(-1), OUTSIDE);
        check.due("told(10)", x.told(10), OUTSIDE);
        check.due("told(0)", x.told(0), 6);
        check.due("told(1)", x.told(1), 6);
        check.due("told(2)", x.told(2), 3);
        x.feed('j');
        check.due("told(3)", x.told(3), 1);
        check.due("told(4)", x.told(4), 0);
        check.due("told(5)", x.told(5), 0);
        check.due("told(6)", x.told(6), 1 + 8 + 4);
        x.step(6);
        check.due("told(4)", x.told(4), 6);
        check.due("told(5)", x.told(5), 1 + 2);
        check.due("told(6)", x.told(6), 4 + 16);
        x.see(0, 0, 0);
        x.see(0, 0, 0);
        x.write(0, 0);
        check.due("told(7)", x.told(7), 2);
        check.due("told(8)", x.told(8), 1);
        x.turn(0);
        check.due("told(9)", x.told(9), 2);
    }

    private static void promise6Cut() {
        TowedBack x = Check.on("j4;c3 1 99;c0 2 0;");
        check.due("cut(0, 0)", x.cut(0, 0), 3);
        check.due("cut(0, 1)", x.cut(0, 1), 1);
        check.due("cut(0, 2)", x.cut(0, 2), 99);
        check.due("cut(1, 0)", x.cut(1, 0), 0);
        check.due("cut(1, 1)", x.cut(1, 1), 2);
        check.due("cut(1, 2)", x.cut(1, 2), 0);
        check.due("cut(2, 0)", x.cut(2, 0), UNKNOWN);
        check.due("cut(-1, 0)", x.cut(-1, 0), UNKNOWN);
        check.due("cut(2, 3)", x.cut(2, 3), UNKNOWN);
        check.due("cut(1, 3)", x.cut(1, 3), OUTSIDE);
        check.due("cut(1, -1)", x.cut(1, -1), OUTSIDE);
    }

    private static void promise7Boat() {
        TowedBack x = Check.on(Check.RING);
        x.step(2);
        x.quay(0, 4);
        check.due("boat(0, 0)", x.boat(0, 0), 2);
        check.due("boat(0, 1)", x.boat(0, 1), 1);
        check.due("boat(0, 2)", x.boat(0, 2), 40);
        check.due("boat(0, 3)", x.boat(0, 3), 10);
        check.due("boat(0, 4)", x.boat(0, 4), 2);
        check.due("boat(0, 5)", x.boat(0, 5), 4);
        check.due("boat(1, 4)", x.boat(1, 4), 1);
        check.due("boat(1, 5)", x.boat(1, 5), -1);
        check.due("boat(3, 0)", x.boat(3, 0), UNKNOWN);
        check.due("boat(-1, 0)", x.boat(-1, 0), UNKNOWN);
        check.due("boat(3, 6)", x.boat(3, 6), UNKNOWN);
        check.due("boat(2, 6)", x.boat(2, 6), OUTSIDE);
        check.due("boat(2, -1)", x.boat(2, -1), OUTSIDE);
    }
}
