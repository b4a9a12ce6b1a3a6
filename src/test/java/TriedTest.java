/** Promises 16 to 23: where, sits, round, least, changes, dry, towed, mercy. */
public final class TriedTest {
    private static final int UNKNOWN = -1000000001, OUTSIDE = -1000000002;
    /** A ring 0, 1, 2, 3 of cuts that are not hard, with a harder arm at 2. */
    private static final String SQUARE = "j6;c0 1 3;c1 2 3;c2 3 3;c3 0 3;c2 4 90;c4 5 1;";
    private static final Check check = new Check();

    public static void main(String[] args) {
        promise16Where();
        promise17Sits();
        promise17LongRun();
        promise18Round();
        promise19LeastToForgive();
        promise19LeastToWeigh();
        promise19LongRun();
        promise20Changes();
        promise20FirstOfLike();
        promise20Refusals();
        promise21Dry();
        promise22Towed();
        promise23Mercy();
        nothingChanges();
        check.end();
    }

    private static void promise16Where() {
        TowedBack x = Check.on(SQUARE + "b0 40 5;b4 2 0;");
        check.due("where(0, 0, 0)", x.where(0, 0, 0), 0);
        check.due("where(0, 0, 1)", x.where(0, 0, 1), 40);
        check.due("where(0, 3, 0)", x.where(0, 3, 0), 3);
        check.due("where(0, 3, 1)", x.where(0, 3, 1), 25);
        check.due("where(0, 7, 1)", x.where(0, 7, 1), 5);
        check.due("where(0, 8, 0)", x.where(0, 8, 0), 0);
        check.due("where(0, 60, 0)", x.where(0, 60, 0), 0);
        check.due("where(0, 60, 1)", x.where(0, 60, 1), 0);
        check.due("where(1, 60, 0)", x.where(1, 60, 0), 5);
        check.due("where(0, -1, 0)", x.where(0, -1, 0), OUTSIDE);
        check.due("where(0, 61, 0)", x.where(0, 61, 0), OUTSIDE);
        check.due("where(0, 0, 2)", x.where(0, 0, 2), OUTSIDE);
        check.due("where(0, 0, -1)", x.where(0, 0, -1), OUTSIDE);
        check.due("where(2, 61, 2)", x.where(2, 61, 2), UNKNOWN);
        check.due("where(-1, 0, 0)", x.where(-1, 0, 0), UNKNOWN);
        x.step(2);
        check.due("where(0, 0, 0): from now", x.where(0, 0, 0), 2);
        check.due("where(0, 1, 0): not back", x.where(0, 1, 0), 3);
        x.turn(0);
        check.due("where(0, 1, 0): turned, of like ones the least", x.where(0, 1, 0), 1);
        check.due("where(0, 1, 1)", x.where(0, 1, 1), 25);
        TowedBack worn = Check.on("j2;c0 1 9;b0 10 99;");
        check.due("where(0, 1, 1): 0 at least", worn.where(0, 1, 1), 0);
    }

    private static void promise17Sits() {
        TowedBack x = Check.on(SQUARE + "b0 40 5;b4 2 0;b0 3 0;b0 4 0;");
        check.due("sits(0)", x.sits(0), 8);
        check.due("sits(1)", x.sits(1), 1);
        check.due("sits(2)", x.sits(2), 0);
        check.due("sits(3)", x.sits(3), -1);
        check.due("sits(4)", x.sits(4), UNKNOWN);
        check.due("sits(-1)", x.sits(-1), UNKNOWN);
        x.step(5);
        check.due("sits(0)", x.sits(0), 3);
    }

    /** With a wear of 1 over cuts as hard as 0 a boat goes as many steps as it is pulled by. */
    private static void promise17LongRun() {
        TowedBack x = Check.on("j3;c0 1 0;c1 2 0;c2 0 0;b0 199 1;b0 200 1;b0 201 1;b0 999 1;");
        check.due("sits(0)", x.sits(0), 199);
        check.due("sits(1)", x.sits(1), 200);
        check.due("sits(2)", x.sits(2), -1);
        check.due("sits(3)", x.sits(3), -1);
    }

    private static void promise18Round() {
        TowedBack x = Check.on(SQUARE + "b0 40 5;b4 2 0;b4 91 0;b0 4 99;");
        check.due("round(0): it would not wear", x.round(0), 4);
        check.due("round(1)", x.round(1), -1);
        check.due("round(2): it sits in the arm", x.round(2), -1);
        check.due("round(3)", x.round(3), 4);
        check.due("round(4)", x.round(4), UNKNOWN);
        check.due("round(-1)", x.round(-1), UNKNOWN);
        // Into a ring 3, 4, 5 from outside: the way to it is no part of it.
        TowedBack tail = Check.on("j9;c0 1 1;c1 2 1;c2 3 5;c3 4 1;c4 5 1;c5 3 2;b0 9 9;");
        check.due("round(0)", tail.round(0), 3);
        // The same, but at 3 the way back out is the least: it goes out again and sits.
        TowedBack out = Check.on("j9;c0 1 1;c1 2 1;c2 3 1;c3 4 1;c4 5 1;c5 3 2;b0 9 9;");
        check.due("round(0)", out.round(0), -1);
        // Two rings of three with two cuts between: round one, over, round the other, back: 3 + 2 + 3 + 2.
        TowedBack eight = Check.on("j8;c0 1 1;c1 2 2;c2 0 2;c0 3 0;c3 4 0;c4 5 1;c5 6 1;c6 4 1;b0 9 9;");
        check.due("round(0)", eight.round(0), 10);
        eight.forgive(0, 7);
        check.due("round(0): pulled too little", eight.round(0), -1);
        eight.weigh(0, 1);
        check.due("round(0): enough", eight.round(0), 10);
    }

    private static void promise19LeastToForgive() {
        // Pulled by P it sits behind the k-th step, where P less 5 k is first 3 or less.
        TowedBack x = Check.on(SQUARE + "b0 40 5;b4 91 0;");
        check.due("least(0, 0, 0): it sits there anyway", x.least(0, 0, 0), 0);
        check.due("least(0, 3, 0): 38 behind 7", x.least(0, 3, 0), 2);
        check.due("least(0, 2, 0): 33 behind 6", x.least(0, 2, 0), 7);
        check.due("least(0, 1, 0): 28 behind 5", x.least(0, 1, 0), 12);
        check.due("least(0, 4, 0)", x.least(0, 4, 0), -1);
        check.due("least(1, 5, 0)", x.least(1, 5, 0), 0);
        check.due("least(1, 4, 0): 1, as hard as the cut", x.least(1, 4, 0), 90);
        check.due("least(1, 2, 0)", x.least(1, 2, 0), -1);
        check.due("least(0, 6, 0)", x.least(0, 6, 0), UNKNOWN);
        check.due("least(0, -1, 0)", x.least(0, -1, 0), UNKNOWN);
        check.due("least(2, 0, 9)", x.least(2, 0, 9), UNKNOWN);
        check.due("least(0, 0, 2)", x.least(0, 0, 2), OUTSIDE);
        check.due("least(0, 0, -1)", x.least(0, 0, -1), OUTSIDE);
        TowedBack just = Check.on("j3;c0 1 5;c1 2 9;b0 6 0;b0 10 0;");
        check.due("just enough to come there", just.least(0, 1, 0), 0);
        check.due("just enough for the second cut", just.least(1, 2, 0), 0);
        check.due("just too much to sit ahead of it", just.least(1, 1, 0), 1);
        TowedBack zero = Check.on("j2;c0 1 0;b0 7 0;");
        check.due("all is forgiven", zero.least(0, 0, 0), 7);
    }

    private static void promise19LeastToWeigh() {
        TowedBack x = Check.on(SQUARE + "b0 40 5;b4 0 0;b4 1 0;b0 0 0;");
        check.due("least(0, 0, 1)", x.least(0, 0, 1), 0);
        check.due("least(0, 1, 1): 44 behind 9", x.least(0, 1, 1), 4);
        check.due("least(0, 2, 1): 49 behind 10", x.least(0, 2, 1), 9);
        check.due("least(0, 3, 1): 54 behind 11", x.least(0, 3, 1), 14);
        check.due("least(1, 5, 1)", x.least(1, 5, 1), 2);
        check.due("least(2, 5, 1)", x.least(2, 5, 1), 1);
        check.due("least(2, 4, 1)", x.least(2, 4, 1), 0);
        check.due("least(3, 0, 1)", x.least(3, 0, 1), 0);
        check.due("least(3, 1, 1)", x.least(3, 1, 1), -1);
        TowedBack far = Check.on("j9;c0 1 99;c1 2 99;c2 3 99;c3 4 99;c4 5 99;c5 6 99;c6 7 99;c7 8 99;"
                + "b0 0 99;b0 0 98;b4 0 99;");
        check.due("the eighth cut is as hard as 99, behind seven wears", far.least(0, 8, 1), 99 + 7 * 99 + 1);
        check.due("least(1, 8, 1)", far.least(1, 8, 1), 99 + 7 * 98 + 1);
        check.due("least(2, 8, 1): of like ones it goes to the least", far.least(2, 8, 1), -1);
        check.due("least(2, 0, 1)", far.least(2, 0, 1), 99 + 3 * 99 + 1);
        TowedBack wide = Check.on("j3;c0 1 0;c1 2 0;c2 0 0;b0 0 99;");
        check.due("to 2 the first time", wide.least(0, 2, 1), 100);
        check.due("999 at most", Check.on("j2;c0 1 50;b0 999 0;").least(0, 0, 1), -1);
    }

    private static void promise19LongRun() {
        TowedBack x = Check.on("j3;c0 1 0;c1 2 0;c2 0 0;b0 300 1;b0 198 1;b0 199 1;b0 200 1;b0 201 1;");
        check.due("300 to 200, behind which it is at 2", x.least(0, 2, 0), 100);
        check.due("300 to 199", x.least(0, 1, 0), 101);
        check.due("198 to 200", x.least(1, 2, 1), 2);
        check.due("199 to 200", x.least(2, 2, 1), 1);
        check.due("199 to 201 would be 201 steps", x.least(2, 0, 1), -1);
        check.due("200 is within", x.least(3, 2, 1), 0);
        check.due("201 is not", x.least(4, 0, 0), 3);
        check.due("nor to weigh", x.least(4, 0, 1), -1);
    }

    private static void promise20Changes() {
        // On a line the boat comes as far as its pull: 1 to 1, 2 to 2 and so on.
        TowedBack x = Check.on("j6;c0 1 0;c1 2 1;c2 3 2;c3 4 3;c4 5 4;b0 1 0;b0 2 0;b0 3 0;b0 4 0;b0 5 0;");
        check.due("no quays", x.changes(60, -1), 0);
        check.due("no quays: its own", x.changes(60, 4), 4);
        x.quay(0, 2);
        x.quay(1, 1);
        check.due("two boats change", x.changes(60, -1), 1);
        check.due("changes(60, 0)", x.changes(60, 0), 1);
        check.due("changes(60, 1)", x.changes(60, 1), 0);
        check.due("changes(60, 2)", x.changes(60, 2), 2);
        x.quay(2, 4);
        x.quay(3, 5);
        x.quay(4, 3);
        check.due("and three in a ring", x.changes(5, -1), 3);
        check.due("changes(5, 2)", x.changes(5, 2), 3);
        check.due("changes(5, 3)", x.changes(5, 3), 4);
        check.due("changes(5, 4)", x.changes(5, 4), 2);
        check.due("too few steps", x.changes(4, -1), -1);
        check.due("whose, where none can be", x.changes(4, 0), -1);
        x.quay(0, 5);
        check.due("two to one", x.changes(60, -1), -1);
        x.quay(0, 0);
        check.due("none is pulled by 0", x.changes(60, -1), -1);
        x.quay(0, -1);
        x.quay(1, -1);
        check.due("a ring of three alone", x.changes(60, -1), 2);
    }

    private static void promise20FirstOfLike() {
        TowedBack x = Check.on("j6;c0 1 0;c1 2 1;c2 3 2;c3 4 3;c4 5 4;b0 1 0;b0 9 0;b0 9 0;b0 9 0;");
        x.quay(0, 5);
        check.due("changes(9, -1)", x.changes(9, -1), 1);
        check.due("of three the first", x.changes(9, 0), 1);
        check.due("changes(9, 1)", x.changes(9, 1), 0);
        check.due("changes(9, 2)", x.changes(9, 2), 2);
        x.quay(1, 5);
        check.due("boat 1 needs one that pulls so far, too", x.changes(9, -1), 1);
        check.due("changes(9, 0)", x.changes(9, 0), 2);
        check.due("changes(9, 1)", x.changes(9, 1), 1);
        check.due("changes(9, 2)", x.changes(9, 2), 0);
    }

    private static void promise20Refusals() {
        TowedBack x = Check.on(Check.RING);
        check.due("changes(61, -1)", x.changes(61, -1), OUTSIDE);
        check.due("changes(-1, 0)", x.changes(-1, 0), OUTSIDE);
        check.due("changes(61, 3)", x.changes(61, 3), UNKNOWN);
        check.due("changes(0, -2)", x.changes(0, -2), UNKNOWN);
        check.due("changes(60, 2)", x.changes(60, 2), 2);
        TowedBack each = Check.on("j3;c0 1 0;c1 2 0;c2 0 0;b0 2 1;b0 6 5;");
        each.quay(0, 0);
        check.due("each wears as it did: 6 by 1 goes 6 steps", each.changes(6, -1), 1);
        check.due("but 5 steps end at 2", each.changes(5, -1), -1);
    }

    private static void promise21Dry() {
        TowedBack x = Check.on(SQUARE + "b0 18 5;b5 0 0;");
        check.due("dry(0)", x.dry(0), 63 - 1 - 32);
        check.due("dry(1)", x.dry(1), 63 - 1 - 32 - 2);
        check.due("dry(2)", x.dry(2), 63 - 1 - 32 - 2 - 4);
        check.due("dry(3)", x.dry(3), 16);
        check.due("dry(60)", x.dry(60), 16);
        check.due("dry(61)", x.dry(61), OUTSIDE);
        check.due("dry(-1)", x.dry(-1), OUTSIDE);
        x.forgive(0, 10);
        check.due("dry(60): 8 comes to 1, where 3 is too little", x.dry(60), 63 - 1 - 32 - 2);
        x.step(1);
        check.due("dry(60): left behind is dry", x.dry(60), 63 - 32 - 2);
        check.due("without boats", Check.on("j9;c0 1 1;").dry(5), 511);
        check.due("dry(61) without water", new TowedBack().dry(61), OUTSIDE);
    }

    private static void promise22Towed() {
        TowedBack x = Check.on("j1;b0 1 0;b0 1 0;b0 1 0;b0 0 0;");
        check.due("towed(0)", x.towed(0), 333);
        check.due("towed(3)", x.towed(3), 0);
        check.due("towed(4)", x.towed(4), UNKNOWN);
        check.due("towed(-1)", x.towed(-1), UNKNOWN);
        x.weigh(0, 998);
        check.due("towed(0)", x.towed(0), 998);
        check.due("towed(1)", x.towed(1), 0);
        check.due("all 0", Check.on("j1;b0 0 0;b0 0 0;").towed(1), 0);
        check.due("alone", Check.on("j1;b0 7 0;").towed(0), 1000);
    }

    private static void promise23Mercy() {
        TowedBack x = new TowedBack();
        check.due("mercy(0, 0)", x.mercy(0, 0), 1000000000);
        check.due("mercy(60, 0)", x.mercy(60, 0), 1000000000);
        check.due("mercy(1, 100)", x.mercy(1, 100), 0);
        check.due("mercy(1, 1)", x.mercy(1, 1), 990000000);
        // Cut each time: 11859210, 3913539 (.3), 1291467 (.87), 426184 (.11), 140640 (.72).
        check.due("mercy(6, 67)", x.mercy(6, 67), 1291467);
        check.due("mercy(7, 67)", x.mercy(7, 67), 426184);
        check.due("mercy(8, 67)", x.mercy(8, 67), 140640);
        check.due("mercy(60, 50)", x.mercy(60, 50), 0);
        check.due("mercy(29, 50)", x.mercy(29, 50), 1);
        check.due("mercy(30, 50)", x.mercy(30, 50), 0);
        check.due("mercy(-1, 0)", x.mercy(-1, 0), OUTSIDE);
        check.due("mercy(61, 0)", x.mercy(61, 0), OUTSIDE);
        check.due("mercy(0, -1)", x.mercy(0, -1), OUTSIDE);
        check.due("mercy(0, 101)", x.mercy(0, 101), OUTSIDE);
    }

    private static void nothingChanges() {
        TowedBack x = Check.on(Check.RING);
        x.step(1);
        x.where(0, 60, 0);
        x.sits(0);
        x.round(0);
        x.least(0, 0, 0);
        x.changes(60, -1);
        x.dry(60);
        x.left(0, -1);
        x.look(0);
        check.due("told(4)", x.told(4), 1);
        check.due("told(9)", x.told(9), 1);
        check.due("boat(0, 0)", x.boat(0, 0), 1);
        check.due("boat(0, 1)", x.boat(0, 1), 0);
        check.due("boat(0, 2)", x.boat(0, 2), 50);
        check.due("boat(0, 4)", x.boat(0, 4), 1);
        check.due("seed(0)", x.seed(0), 0);
    }
}
