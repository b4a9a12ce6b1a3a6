/** Promises 24 to 29: see, left, look, write, tear, judge. */
public final class SeenTest {
    private static final int UNKNOWN = -1000000001, OUTSIDE = -1000000002, FULL = -1000000004;
    /** On the line a boat that does not wear comes as far as its pull allows: by 10 k and one more past the k-th cut. */
    private static final String LINE = "j6;c0 1 0;c1 2 10;c2 3 20;c3 4 30;c4 5 40;";
    private static final Check check = new Check();

    public static void main(String[] args) {
        promise24See();
        promise25Left();
        promise25FromWhereItIsNow();
        promise25Wear();
        promise26Look();
        promise26Ties();
        promise27Write();
        promise28Tear();
        promise29Judge();
        check.end();
    }

    private static void promise24See() {
        TowedBack x = Check.on(LINE + "b0 5 0;b1 5 0;");
        check.due("see(0, 0, 5)", x.see(0, 0, 5), 1);
        check.due("see(1, 30, 0)", x.see(1, 30, 0), 2);
        check.due("see(2, 0, 0)", x.see(2, 0, 0), UNKNOWN);
        check.due("see(-1, 0, 0)", x.see(-1, 0, 0), UNKNOWN);
        check.due("see(0, 0, 6)", x.see(0, 0, 6), UNKNOWN);
        check.due("see(0, 31, -1)", x.see(0, 31, -1), UNKNOWN);
        check.due("see(0, 31, 0)", x.see(0, 31, 0), OUTSIDE);
        check.due("see(0, -1, 0)", x.see(0, -1, 0), OUTSIDE);
        for (int k = 3; k <= 6; k++) check.due("see(0, 1, 1)", x.see(0, 1, 1), k);
        check.due("a seventh", x.see(0, 1, 1), FULL);
        check.due("a seventh outside", x.see(0, 31, 1), OUTSIDE);
        check.due("a seventh unknown", x.see(0, 31, 9), UNKNOWN);
        check.due("told(7)", x.told(7), 6);
    }

    private static void promise25Left() {
        TowedBack x = Check.on(LINE + "b0 5 0;b0 5 0;");
        check.due("all of them", x.left(0, -1), 1000);
        check.due("left(0, 0)", x.left(0, 0), 0);
        check.due("left(0, 999)", x.left(0, 999), 999);
        check.due("left(0, 1000)", x.left(0, 1000), -1);
        check.due("left(0, -2)", x.left(0, -2), -1);
        x.see(0, 5, 2);
        check.due("left(0, -1): 11 to 20", x.left(0, -1), 10);
        check.due("left(0, 0)", x.left(0, 0), 11);
        check.due("left(0, 9)", x.left(0, 9), 20);
        check.due("left(0, 10)", x.left(0, 10), -1);
        check.due("of the other nothing is seen", x.left(1, -1), 1000);
        x.see(1, 3, 3);
        check.due("left(1, -1): 21 and more", x.left(1, -1), 979);
        check.due("left(1, 0)", x.left(1, 0), 21);
        x.see(0, 30, 3);
        check.due("left(0, -1): both cannot be", x.left(0, -1), 0);
        check.due("left(0, 0)", x.left(0, 0), -1);
        check.due("left(2, 0)", x.left(2, 0), UNKNOWN);
        check.due("left(-1, -1)", x.left(-1, -1), UNKNOWN);
        TowedBack still = Check.on(LINE + "b2 5 0;");
        still.see(0, 0, 2);
        check.due("behind no step it is where it is", still.left(0, -1), 1000);
        still.see(0, 0, 1);
        check.due("and nowhere else", still.left(0, -1), 0);
        TowedBack parts = Check.on("j3;c0 1 5;c1 2 10;c2 0 50;b0 9 0;");
        parts.see(0, 3, 0);
        check.due("pulls on both sides of those that do not fit", parts.left(0, -1), 6 + 949);
        check.due("left(0, 5)", parts.left(0, 5), 5);
        check.due("left(0, 6)", parts.left(0, 6), 51);
        check.due("left(0, 954)", parts.left(0, 954), 999);
    }

    private static void promise25FromWhereItIsNow() {
        TowedBack x = Check.on(LINE + "b0 15 0;");
        x.see(0, 1, 2);
        check.due("from 0 it is not at 2 behind a step", x.left(0, -1), 0);
        x.step(1);
        check.due("from 1, FROM nowhere: to 0, which is less hard", x.left(0, -1), 0);
        x.tear();
        x.see(0, 1, 0);
        check.due("left(0, -1)", x.left(0, -1), 999);
        check.due("left(0, 0)", x.left(0, 0), 1);
        x.step(1);
        check.due("boat(0, 0)", x.boat(0, 0), 2);
        check.due("from 2 it goes to 1", x.left(0, -1), 0);
    }

    private static void promise25Wear() {
        TowedBack x = Check.on(LINE + "b0 5 3;");
        x.see(0, 2, 2);
        check.due("14 at the start are 11 at the second cut", x.left(0, 0), 14);
        check.due("left(0, -1)", x.left(0, -1), 986);
        x.see(0, 9, 2);
        check.due("27 would be 21 at the third", x.left(0, -1), 13);
        check.due("left(0, 12)", x.left(0, 12), 26);
    }

    private static void promise26Look() {
        // 0 sits at 0, 1 to 10 at 1, 11 to 20 at 2, 21 to 30 at 3, 31 to 40 at 4, the others at 5.
        TowedBack x = Check.on(LINE + "b0 5 0;b0 5 0;");
        check.due("look(0)", x.look(0), 5);
        x.see(0, 1, 1);
        check.due("look(0)", x.look(0), 5);
        x.see(0, 5, 2);
        check.due("look(0): those left go alike", x.look(0), -1);
        check.due("look(1)", x.look(1), 5);
        x.see(1, 5, 0);
        check.due("one is left", x.left(1, -1), 1);
        check.due("look(1)", x.look(1), -1);
        x.see(1, 5, 1);
        check.due("none is left", x.look(1), -1);
        check.due("look(2)", x.look(2), UNKNOWN);
        check.due("look(-1)", x.look(-1), UNKNOWN);
        check.due("it cannot go at all", Check.on("j1;b0 5 0;").look(0), -1);
    }

    private static void promise26Ties() {
        TowedBack x = Check.on("j3;c0 1 99;c1 2 10;b0 5 0;");
        // 0 .. 99 stay at 0, the others are at 1 behind one step and at 2 from then on: 900 alike each time.
        check.due("of like ones the least", x.look(0), 1);
        // With a wear of 1 over cuts as hard as 0 it goes as many steps as it is pulled by.
        TowedBack last = Check.on("j3;c0 1 0;c1 2 0;c2 0 0;b0 5 1;");
        last.see(0, 29, 2);
        // Left are 2, 5, .. 26 (nine, that sit at 2) and 29 and on; behind 30 steps 29 sits at 2, 30 and on are at 0.
        check.due("left(0, -1)", last.left(0, -1), 9 + 971);
        check.due("behind 27 or 28 the greatest part is 971, behind 30 it is 970", last.look(0), 30);
    }

    private static void promise27Write() {
        TowedBack x = Check.on(LINE + "b0 5 0;");
        check.due("write(0, 5)", x.write(0, 5), 1);
        check.due("write(0, 0)", x.write(0, 0), 2);
        check.due("write(1, 0)", x.write(1, 0), UNKNOWN);
        check.due("write(-1, 0)", x.write(-1, 0), UNKNOWN);
        check.due("write(0, 6)", x.write(0, 6), UNKNOWN);
        check.due("write(0, -1)", x.write(0, -1), UNKNOWN);
        for (int k = 3; k <= 15; k++) check.due("write(0, 0)", x.write(0, 0), k);
        check.due("a sixteenth", x.write(0, 0), FULL);
        check.due("a sixteenth unknown", x.write(0, 6), UNKNOWN);
        check.due("told(8)", x.told(8), 15);
        check.due("undo()", x.undo(), -1000000003);
    }

    private static void promise28Tear() {
        TowedBack x = Check.on(LINE + "b0 5 0;");
        check.due("tear() of nothing", x.tear(), 0);
        x.see(0, 0, 1);
        x.write(0, 1);
        x.write(0, 2);
        check.due("tear()", x.tear(), 3);
        check.due("told(7)", x.told(7), 0);
        check.due("told(8)", x.told(8), 0);
        check.due("left(0, -1)", x.left(0, -1), 1000);
        check.due("judge()", x.judge(), -1);
        check.due("tear() again", x.tear(), 0);
        check.due("see(0, 0, 0)", x.see(0, 0, 0), 1);
        check.due("write(0, 0)", x.write(0, 0), 1);
    }

    private static void promise29Judge() {
        TowedBack x = Check.on(LINE + "b0 5 0;b3 0 0;");
        check.due("judge() of nothing", x.judge(), -1);
        x.write(1, 3);
        x.write(0, 0);
        x.write(0, 1);
        x.write(0, 2);
        check.due("judge(): by the entry", x.judge(), 2);
        x.step(1);
        check.due("judge(): as it is now", x.judge(), 1);
        x.undo();
        check.due("judge()", x.judge(), 2);
    }
}
