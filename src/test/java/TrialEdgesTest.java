/** Section 3 as far as promises 16 to 23 go: each sentence that names an edge has a test of its own. */
public final class TrialEdgesTest {
    private static final int NONE = Check.NONE, UNKNOWN = Check.UNKNOWN, OUTSIDE = Check.OUTSIDE;
    private static final int LOWEST = Check.LOWEST, HIGHEST = Check.HIGHEST;
    private static final int[] NO_TRIAL_STEPS = {LOWEST, -60, -1, 61, 62, HIGHEST};
    /** A ring of three, round which a boat from 0 goes by 1 and 2. */
    private static final String THREE = "j3;c0 1 0;c1 2 0;c2 0 0;";
    /** From 0 a boat comes as far as its pull: 1 to 1, 2 to 2, .. 5 to 5. */
    private static final String STAIRS = "j6;c0 1 0;c1 2 1;c2 3 2;c3 4 3;c4 5 4;";
    /** By 999 and a wear of 90 a boat just comes over the fourth 98, behind ten steps, and sits at 2. */
    private static final String STEEP = "j3;c0 1 5;c1 2 98;c2 0 9;b0 980 90;b0 999 90;b0 998 90;b0 0 90;";
    private static final Check check = new Check();

    public static void main(String[] args) {
        whereSteps();
        wherePull();
        whereRefusals();
        sitsWithin200();
        sitsFirst();
        sitsUnknown();
        roundDoesNotWear();
        roundOnlyIfItNeverSits();
        roundInTheEnd();
        roundBackToBoth();
        roundUnknown();
        leastFromZeroToItsPull();
        leastWithin200();
        leastToWeighUpTo999();
        leastNone();
        leastRefusals();
        changesEachToOne();
        changesSteps();
        changesAreCountedByRings();
        changesFirstOfLike();
        changesNone();
        changesRefusals();
        quaysNoneAtFirst();
        drySteps();
        dryNorIsThereNow();
        dryRefusals();
        towedIsCut();
        towedAllZero();
        towedUnknown();
        mercyOfSoMany();
        mercyIsCutEachTime();
        mercyOfAHundred();
        check.end();
    }

    // ---- where, sits, round

    private static void whereSteps() {
        check.says("WHERE is a BOAT behind n STEPS (0 .. 60); its PULL then.");
        TowedBack x = Check.on(Check.SEVEN + "b0 999 1;b0 60 1;b0 59 1;b0 0 0;");
        for (int n : new int[] {0, 1, 6, 7, 59, 60}) {
            check.due("where(0, " + n + ", 0)", x.where(0, n, 0), n % 7);
            check.due("where(0, " + n + ", 1)", x.where(0, n, 1), 999 - n);
            check.due("where(3, " + n + ", 0)", x.where(3, n, 0), 0);
        }
        check.due("where(1, 60, 0): 60 steps far", x.where(1, 60, 0), 60 % 7);
        check.due("where(2, 60, 0): 59 steps far", x.where(2, 60, 0), 59 % 7);
        x.step(60);
        check.due("where(0, 60, 0): from now", x.where(0, 60, 0), 120 % 7);
        check.due("where(0, 60, 1)", x.where(0, 60, 1), 999 - 120);
    }

    private static void wherePull() {
        check.says("its PULL then");
        TowedBack x = Check.on("j3;c0 1 0;c1 2 0;b0 99 98;b0 99 99;b0 98 99;b0 0 99;");
        check.due("where(0, 1, 1)", x.where(0, 1, 1), 1);
        check.due("where(0, 2, 1): 0 at least", x.where(0, 2, 1), 0);
        check.due("where(1, 1, 1)", x.where(1, 1, 1), 0);
        check.due("where(2, 1, 1): 0 at least", x.where(2, 1, 1), 0);
        check.due("where(2, 60, 0): it sits at 1", x.where(2, 60, 0), 1);
        check.due("where(3, 60, 1)", x.where(3, 60, 1), 0);
    }

    private static void whereRefusals() {
        check.says("WHERE: what = 0 the JUNCTION, 1 its PULL. UNKNOWN, OUTSIDE.");
        TowedBack x = Check.on(THREE + "b0 9 0;");
        for (int n : NO_TRIAL_STEPS) check.due("where(0, " + n + ", 0)", x.where(0, n, 0), OUTSIDE);
        for (int what : new int[] {LOWEST, -1, 2, HIGHEST}) check.due("where(0, 0, " + what + ")", x.where(0, 0, what), OUTSIDE);
        for (int b : new int[] {LOWEST, -1, 1, 5, HIGHEST}) {
            check.due("where(" + b + ", 0, 0)", x.where(b, 0, 0), UNKNOWN);
            check.due("where(" + b + ", 61, 2): unknown first", x.where(b, 61, 2), UNKNOWN);
        }
        check.due("without water", new TowedBack().where(0, 0, 0), UNKNOWN);
    }

    private static void sitsWithin200() {
        check.says("SITS: behind how many STEPS (0 .. 200) it SITS first; NONE.");
        TowedBack x = Check.on(THREE + "b0 0 1;b0 1 1;b0 199 1;b0 200 1;b0 201 1;");
        int[] due = {0, 1, 199, 200, NONE};
        for (int b = 0; b < 5; b++) check.due("sits(" + b + ")", x.sits(b), due[b]);
        x.step(1);
        check.due("sits(4): a step later", x.sits(4), 200);
        TowedBack hard = Check.on("j3;c0 1 50;c1 2 50;c2 0 50;b0 250 1;b0 251 1;b0 999 0;b0 999 1;");
        check.due("sits(0)", hard.sits(0), 200);
        check.due("sits(1)", hard.sits(1), NONE);
        check.due("sits(2): never", hard.sits(2), NONE);
        check.due("sits(3): behind 949", hard.sits(3), NONE);
    }

    private static void sitsFirst() {
        check.says("it SITS first");
        TowedBack x = Check.on(STAIRS + "b0 1 0;b0 5 0;b0 999 0;b5 0 0;b0 4 2;");
        int[] due = {1, 5, 5, 0, 2};
        for (int b = 0; b < 5; b++) check.due("sits(" + b + ")", x.sits(b), due[b]);
    }

    private static void sitsUnknown() {
        check.says("SITS; NONE. UNKNOWN.");
        TowedBack x = Check.on(THREE + "b0 9 0;");
        for (int b : new int[] {LOWEST, -1, 1, 5, HIGHEST}) check.due("sits(" + b + ")", x.sits(b), UNKNOWN);
        check.due("without water", new TowedBack().sits(0), UNKNOWN);
    }

    private static void roundDoesNotWear() {
        check.says("ROUND of a BOAT whose PULL would not WEAR");
        TowedBack x = Check.on("j3;c0 1 9;c1 2 9;c2 0 9;b0 10 99;b0 10 0;b0 9 0;b0 9 99;");
        int[] due = {3, 3, NONE, NONE};
        for (int b = 0; b < 4; b++) check.due("round(" + b + ")", x.round(b), due[b]);
        check.due("where(0, 1, 1): yet it wears", x.where(0, 1, 1), 0);
    }

    private static void roundOnlyIfItNeverSits() {
        check.says("if it never SITS, how many STEPS the ring takes on which it goes in the end (from a JUNCTION, FROM another one, back to these two); NONE: it SITS.");
        check.due("no cuts", Check.on("j1;b0 999 0;").round(0), NONE);
        check.due("one cut", Check.on("j2;c0 1 0;b0 999 0;").round(0), NONE);
        check.due("a dead end", Check.on(STAIRS + "b0 999 0;").round(0), NONE);
        check.due("at the end of it", Check.on(STAIRS + "b5 999 0;").round(0), NONE);
        check.due("the last cut of the ring is just too hard", Check.on("j3;c0 1 0;c1 2 0;c2 0 50;b0 50 0;").round(0), NONE);
        check.due("just not", Check.on("j3;c0 1 0;c1 2 0;c2 0 50;b0 51 0;").round(0), 3);
        // Behind sixteen steps, told by a walk of its own.
        String late = "j9;c3 7 4;c6 7 0;c1 6 1;c2 3 3;c1 0 1;c6 2 3;c2 4 2;c0 3 5;c8 4 0;c8 5 0;c7 8 3;c2 1 5;";
        check.due("late: round(0)", Check.on(late + "b0 6 0;").round(0), NONE);
        check.due("late: sits(0)", Check.on(late + "b0 6 0;").sits(0), 16);
    }

    private static void roundInTheEnd() {
        check.says("how many STEPS the ring takes on which it goes in the end");
        check.due("the least ring", Check.on(THREE + "b0 1 0;").round(0), 3);
        check.due("the seven", Check.on(Check.SEVEN + "b0 1 0;").round(0), 7);
        check.due("all nine", Check.on("j9;c0 1 0;c1 2 0;c2 3 0;c3 4 0;c4 5 0;c5 6 0;c6 7 0;c7 8 0;c8 0 0;b4 1 0;").round(0), 9);
        // Into a ring of three behind fifteen steps, told by a walk of its own.
        String far = "j9;c6 4 3;c6 3 4;c0 3 5;c6 2 5;c7 1 3;c4 5 3;c2 8 4;c3 4 0;c0 1 0;c1 2 1;c7 6 2;c7 8 2;c3 5 5;";
        TowedBack x = Check.on(far + "b0 6 0;");
        check.due("ahead of the ring", x.round(0), 3);
        for (int n = 1; n <= 20; n++) {
            x.step(1);
            check.due("behind " + n + " steps", x.round(0), 3);
        }
    }

    private static void roundBackToBoth() {
        check.says("(from a JUNCTION, FROM another one, back to these two)");
        // Two rings of three with two cuts between: through each end of these twice, once each way.
        TowedBack eight = Check.on("j8;c0 1 1;c1 2 2;c2 0 2;c0 3 0;c3 4 0;c4 5 1;c5 6 1;c6 4 1;b0 9 9;");
        eight.weigh(0, 990);
        for (int n = 0; n <= 11; n++) {
            check.due("eight, behind " + n + " steps", eight.round(0), 10);
            eight.step(1);
        }
        // The longest that was found, told by a walk of its own.
        String longest = "j9;c8 4 1;c1 2 0;c4 5 2;c1 4 1;c5 6 2;c0 6 2;c3 7 2;c6 3 3;c5 3 2;c2 4 5;c6 7 2;c7 8 3;c0 2 5;";
        TowedBack x = Check.on(longest + "b0 6 0;");
        for (int n = 0; n <= 18; n++) {
            check.due("the longest, behind " + n + " steps", x.round(0), 17);
            x.step(1);
        }
        // At 1, FROM the dead end 0, it goes on into the ring 2, 3, 4; FROM nowhere it goes back to 0 and sits.
        TowedBack from = Check.on("j5;c0 1 0;c1 2 5;c2 3 1;c3 4 1;c4 2 1;b0 9 0;");
        from.step(1);
        check.due("from 0", from.round(0), 3);
        from.turn(0);
        check.due("from nowhere", from.round(0), NONE);
        check.due("the longest, pulled too little", Check.on(longest + "b0 5 0;").round(0), NONE);
    }

    private static void roundUnknown() {
        check.says("ROUND; NONE. UNKNOWN.");
        TowedBack x = Check.on(THREE + "b0 9 0;");
        for (int b : new int[] {LOWEST, -1, 1, 5, HIGHEST}) check.due("round(" + b + ")", x.round(b), UNKNOWN);
        check.due("without water", new TowedBack().round(0), UNKNOWN);
    }

    // ---- least

    private static void leastFromZeroToItsPull() {
        check.says("LEAST to FORGIVE a BOAT now (0 .. its PULL) so that it SITS at a JUNCTION");
        TowedBack x = Check.on(STAIRS + "b0 0 0;b0 3 0;b0 999 0;");
        check.due("it sits there as it is", x.least(0, 0, 0), 0);
        check.due("more than it is pulled by cannot be forgiven", x.least(0, 1, 0), NONE);
        for (int j = 0; j <= 3; j++) check.due("least(1, " + j + ", 0)", x.least(1, j, 0), 3 - j);
        check.due("least(1, 4, 0)", x.least(1, 4, 0), NONE);
        for (int j = 0; j <= 4; j++) check.due("least(2, " + j + ", 0)", x.least(2, j, 0), 999 - j);
        check.due("least(2, 5, 0)", x.least(2, 5, 0), 0);
        TowedBack steep = Check.on(STEEP);
        check.due("980 to 815, which comes to 0 with 5", steep.least(0, 0, 0), 165);
        check.due("998 to 815", steep.least(2, 0, 0), 183);
        check.due("999 sits at 2", steep.least(1, 2, 0), 0);
        check.due("999 to 998, which sits at 1", steep.least(1, 1, 0), 1);
    }

    private static void leastWithin200() {
        check.says("within 200 STEPS: how much; NONE.");
        TowedBack x = Check.on(THREE + "b0 200 1;b0 201 1;b0 999 1;b0 197 1;b0 198 1;");
        check.due("200 are within", x.least(0, 2, 0), 0);
        check.due("201 are not: 198 are", x.least(1, 0, 0), 3);
        check.due("999 to 200", x.least(2, 2, 0), 799);
        check.due("999 to 199", x.least(2, 1, 0), 800);
        check.due("999 to 198", x.least(2, 0, 0), 801);
        check.due("to weigh: 197 to 200", x.least(3, 2, 1), 0);
        check.due("to weigh: 198 to 200", x.least(4, 2, 1), 2);
        check.due("to weigh: 201 would be at 0, but too late", x.least(0, 0, 1), NONE);
        check.due("to weigh: 198 is at 0 as it is", x.least(4, 0, 1), 0);
        TowedBack ever = Check.on(THREE + "b0 9 0;");
        check.due("one that never wears sits only if all is forgiven", ever.least(0, 0, 0), 9);
        check.due("and nowhere else", ever.least(0, 1, 0), NONE);
    }

    private static void leastToWeighUpTo999() {
        check.says("LEAST to WEIGH it DOWN (0 .. 999 less its PULL): likewise; NONE.");
        TowedBack x = Check.on(STEEP);
        check.due("980 to 999", x.least(0, 2, 1), 19);
        check.due("998 to 999", x.least(2, 2, 1), 1);
        check.due("999 is there", x.least(1, 2, 1), 0);
        check.due("999 cannot be more", x.least(1, 0, 1), NONE);
        check.due("998 sits at 1 as it is", x.least(2, 1, 1), 0);
        TowedBack over = Check.on(STEEP.replace("98;c2", "99;c2"));
        check.due("1000 would do", over.least(0, 2, 1), NONE);
        TowedBack stairs = Check.on(STAIRS + "b0 0 0;b0 999 0;b0 5 0;");
        for (int j = 0; j <= 5; j++) check.due("least(0, " + j + ", 1)", stairs.least(0, j, 1), j);
        check.due("least(1, 5, 1)", stairs.least(1, 5, 1), 0);
        check.due("least(1, 4, 1)", stairs.least(1, 4, 1), NONE);
        check.due("least(2, 4, 1)", stairs.least(2, 4, 1), NONE);
    }

    private static void leastNone() {
        check.says("LEAST to FORGIVE a BOAT now (0 .. its PULL) so that it SITS at a JUNCTION within 200 STEPS: how much; NONE.");
        TowedBack x = Check.on("j3;c0 1 0;b0 9 0;b2 0 0;");
        check.due("no way there", x.least(0, 2, 0), NONE);
        check.due("nor by weighing", x.least(0, 2, 1), NONE);
        check.due("without a cut: it sits", x.least(1, 2, 0), 0);
        check.due("without a cut: it sits", x.least(1, 2, 1), 0);
        check.due("and not elsewhere", x.least(1, 0, 1), NONE);
        // Pulled by 51 and worn by 10 it comes to 1 with 41: by a cut as hard as 40 it goes on, by 41 it sits.
        TowedBack passed = Check.on("j3;c0 1 50;c1 2 40;b0 999 10;b0 0 10;");
        check.due("none sits at 1", passed.least(0, 1, 0), NONE);
        check.due("none sits at 1", passed.least(1, 1, 1), NONE);
        check.due("999 to 50", passed.least(0, 0, 0), 949);
        TowedBack just = Check.on("j3;c0 1 50;c1 2 41;b0 999 10;b0 0 10;");
        check.due("51 alone sits at 1", just.least(0, 1, 0), 948);
        check.due("51 alone sits at 1", just.least(1, 1, 1), 51);
    }

    private static void leastRefusals() {
        check.says("what = 0 LEAST to FORGIVE, 1 LEAST to WEIGH DOWN; NONE. UNKNOWN, OUTSIDE.");
        TowedBack x = Check.on(THREE + "b0 9 0;");
        for (int what : new int[] {LOWEST, -1, 2, HIGHEST}) check.due("least(0, 0, " + what + ")", x.least(0, 0, what), OUTSIDE);
        for (int b : new int[] {LOWEST, -1, 1, 5, HIGHEST}) {
            check.due("least(" + b + ", 0, 0)", x.least(b, 0, 0), UNKNOWN);
            check.due("least(" + b + ", 0, 2): unknown first", x.least(b, 0, 2), UNKNOWN);
        }
        for (int j : new int[] {LOWEST, -2, -1, 3, 9, HIGHEST}) {
            check.due("least(0, " + j + ", 1)", x.least(0, j, 1), UNKNOWN);
            check.due("least(0, " + j + ", 2): unknown first", x.least(0, j, 2), UNKNOWN);
        }
    }

    // ---- changes

    private static void changesEachToOne() {
        check.says("CHANGES: all PULLS are given to BOATS anew (each to one)");
        TowedBack x = Check.on(STAIRS + "b0 5 0;b0 1 0;b0 0 0;");
        x.quay(1, 5);
        check.due("5 goes to the one that needs it", x.changes(60, NONE), 1);
        check.due("changes(60, 1)", x.changes(60, 1), 0);
        check.due("changes(60, 0): its own goes the other way", x.changes(60, 0), 1);
        x.quay(2, 5);
        check.due("not to two", x.changes(60, NONE), NONE);
        x.weigh(1, 4);
        check.due("two of them do", x.changes(60, NONE), 1);
        check.due("changes(60, 2)", x.changes(60, 2), 0);
    }

    private static void changesSteps() {
        check.says("so that behind n STEPS (0 .. 60) each BOAT is at its QUAY");
        TowedBack x = Check.on(Check.SEVEN + "b0 999 0;b0 0 0;");
        for (int n : new int[] {0, 1, 59, 60}) {
            x.quay(0, n % 7);
            check.due("changes(" + n + ", -1), as it is", x.changes(n, NONE), 0);
            x.quay(0, NONE);
            x.quay(1, n % 7);
            check.due("changes(" + n + ", -1), the other", x.changes(n, NONE), n == 0 ? 0 : 1);
            x.quay(1, NONE);
        }
        x.quay(0, 60 % 7);
        check.due("changes(59, -1)", x.changes(59, NONE), NONE);
        x.quay(0, 1);
        check.due("changes(0, -1): it is at 0", x.changes(0, NONE), NONE);
    }

    private static void changesAreCountedByRings() {
        check.says("fewest changes of two (as many as BOATS that get another one's PULL, 1 less for each ring of these)");
        TowedBack x = Check.on(STAIRS + "b0 1 0;b0 2 0;b0 3 0;b0 4 0;b0 5 0;");
        int[][] orders = {{0, 1, 2, 3, 4}, {1, 0, 2, 3, 4}, {4, 1, 2, 3, 0}, {1, 0, 3, 2, 4}, {1, 2, 0, 3, 4}, {1, 0, 3, 4, 2}, {1, 2, 3, 0, 4}, {1, 2, 3, 4, 0}, {4, 0, 1, 2, 3}, {4, 3, 2, 1, 0}};
        int[] due = {0, 1, 1, 2, 2, 3, 3, 4, 4, 2};
        for (int k = 0; k < orders.length; k++) {
            for (int b = 0; b < 5; b++) x.quay(b, orders[k][b] + 1);
            check.due("changes(60, -1), " + k, x.changes(60, NONE), due[k]);
            for (int b = 0; b < 5; b++) check.due("changes(60, " + b + "), " + k, x.changes(60, b), orders[k][b]);
        }
    }

    private static void changesFirstOfLike() {
        check.says("of like ones the first (BOAT by BOAT the lesser number of whose PULL it gets)");
        TowedBack x = Check.on(STAIRS + "b0 1 0;b0 9 0;b0 9 0;b0 1 0;b0 9 0;");
        x.quay(0, 5);
        check.due("one change", x.changes(9, NONE), 1);
        int[] first = {1, 0, 2, 3, 4};
        for (int b = 0; b < 5; b++) check.due("changes(9, " + b + ")", x.changes(9, b), first[b]);
        x.quay(3, 5);
        check.due("two changes", x.changes(9, NONE), 2);
        int[] second = {1, 0, 2, 4, 3};
        for (int b = 0; b < 5; b++) check.due("changes(9, " + b + ")", x.changes(9, b), second[b]);
        x.quay(1, 5);
        // Boats 0, 1, 3 at 5: of the three nines one stays with 1.
        check.due("two changes", x.changes(9, NONE), 2);
        int[] third = {2, 1, 0, 4, 3};
        for (int b = 0; b < 5; b++) check.due("changes(9, " + b + ")", x.changes(9, b), third[b]);
        TowedBack like = Check.on("j1;b0 7 0;b0 7 0;");
        check.due("like pulls: its own", like.changes(0, 0), 0);
        check.due("like pulls: its own", like.changes(0, 1), 1);
        // Fewest goes ahead of first: 0 could get 1's, and 1 get 4's, by two changes, but 0 gets 4's by one.
        TowedBack few = Check.on(STAIRS + "b0 1 0;b0 9 0;b0 3 0;b0 1 0;b0 9 0;");
        few.quay(0, 5);
        few.quay(1, 5);
        check.due("one change", few.changes(9, NONE), 1);
        check.due("changes(9, 0)", few.changes(9, 0), 4);
        check.due("changes(9, 4)", few.changes(9, 4), 0);
    }

    private static void changesNone() {
        check.says("how many; whose PULL a BOAT gets; NONE.");
        TowedBack x = Check.on(STAIRS + "b0 1 0;b0 2 0;");
        x.quay(0, 3);
        check.due("how many", x.changes(60, NONE), NONE);
        for (int b = 0; b < 2; b++) check.due("whose, " + b, x.changes(60, b), NONE);
        x.quay(0, 2);
        x.quay(1, 2);
        check.due("both want the one", x.changes(60, NONE), NONE);
        check.due("whose", x.changes(60, 1), NONE);
        x.quay(1, NONE);
        check.due("one gives way", x.changes(60, NONE), 1);
        check.due("no boats", Check.on("j1;").changes(60, NONE), 0);
        check.due("no water", new TowedBack().changes(0, NONE), 0);
        check.due("one boat", Check.on("j1;b0 9 9;").changes(60, 0), 0);
    }

    private static void changesRefusals() {
        check.says("CHANGES: b = NONE how many, else whose PULL; NONE. UNKNOWN, OUTSIDE.");
        TowedBack x = Check.on(THREE + "b0 9 0;b0 9 0;");
        for (int n : NO_TRIAL_STEPS) {
            check.due("changes(" + n + ", -1)", x.changes(n, NONE), OUTSIDE);
            check.due("changes(" + n + ", 1)", x.changes(n, 1), OUTSIDE);
            check.due("changes(" + n + ", 2): unknown first", x.changes(n, 2), UNKNOWN);
        }
        for (int b : new int[] {LOWEST, -2, 2, 5, HIGHEST}) check.due("changes(0, " + b + ")", x.changes(0, b), UNKNOWN);
        check.due("changes(60, 1)", x.changes(60, 1), 1);
        check.due("without water", new TowedBack().changes(0, 0), UNKNOWN);
        check.due("without water", new TowedBack().changes(61, NONE), OUTSIDE);
    }

    private static void quaysNoneAtFirst() {
        check.says("QUAYS are told one by one (all at first: none, which any JUNCTION does).");
        TowedBack x = Check.on(STAIRS + "b0 1 0;b0 2 0;b0 3 0;b0 4 0;b0 5 0;");
        for (int b = 0; b < 5; b++) check.due("boat(" + b + ", 5)", x.boat(b, 5), NONE);
        check.due("changes(60, -1)", x.changes(60, NONE), 0);
        x.quay(4, 1);
        check.due("one is told, the others any", x.changes(60, NONE), 1);
        for (int b = 0; b < 4; b++) check.due("boat(" + b + ", 5)", x.boat(b, 5), NONE);
        x.quay(4, NONE);
        check.due("none again", x.changes(60, NONE), 0);
    }

    // ---- dry, towed, mercy

    private static void drySteps() {
        check.says("DRY: JUNCTIONS (a SET) to which no BOAT comes within n STEPS (0 .. 60)");
        TowedBack x = Check.on("j9;c0 1 0;c1 2 0;c2 3 0;c3 4 0;c4 5 0;c5 6 0;c6 7 0;c7 8 0;b0 999 0;");
        int dry = 511;
        for (int n = 0; n <= 8; n++) {
            dry -= 1 << n;
            check.due("dry(" + n + ")", x.dry(n), dry);
        }
        check.due("dry(60)", x.dry(60), 0);
        check.due("it comes as far as it is pulled", Check.on(STAIRS + "b0 4 0;").dry(60), 32);
        check.due("by any of them", Check.on(STAIRS + "b0 1 0;b5 0 0;").dry(1), 4 + 8 + 16);
        check.due("none ever comes", Check.on("j9;").dry(60), 511);
    }

    private static void dryNorIsThereNow() {
        check.says("nor is there now");
        TowedBack x = Check.on(STAIRS + "b0 2 0;");
        check.due("dry(0)", x.dry(0), 63 - 1);
        x.step(60);
        check.due("where it was is dry", x.dry(60), 63 - 4);
        check.due("all are taken", Check.on("j1;b0 0 0;").dry(0), 0);
    }

    private static void dryRefusals() {
        check.says("DRY. OUTSIDE.");
        TowedBack x = Check.on(THREE + "b0 0 0;");
        for (int n : NO_TRIAL_STEPS) {
            check.due("dry(" + n + ")", x.dry(n), OUTSIDE);
            check.due("dry(" + n + ") without water", new TowedBack().dry(n), OUTSIDE);
        }
        check.due("dry(0)", x.dry(0), 6);
        check.due("dry(60)", x.dry(60), 6);
        check.due("dry(0) without water", new TowedBack().dry(0), 0);
    }

    private static void towedIsCut() {
        check.says("TOWED: thousandths (cut) of the PULLS of all that a BOAT's is");
        check.due("2 of 3", Check.on("j1;b0 2 0;b0 1 0;").towed(0), 666);
        check.due("1 of 1000", Check.on("j1;b0 1 0;b0 999 0;").towed(0), 1);
        check.due("1 of 1001", Check.on("j1;b0 1 0;b0 999 0;b0 1 0;").towed(0), 0);
        check.due("999 of 1000", Check.on("j1;b0 999 0;b0 1 0;").towed(0), 999);
        check.due("all", Check.on("j1;b0 999 0;b0 0 0;").towed(0), 1000);
        check.due("999 of five times that", Check.on("j1;" + Check.repeat("b0 999 0;", 5)).towed(4), 200);
        check.due("the last counts, too", Check.on("j1;b0 1 0;b0 0 0;b0 0 0;b0 0 0;b0 1 0;").towed(0), 500);
    }

    private static void towedAllZero() {
        check.says("all 0: 0");
        check.due("one", Check.on("j1;b0 0 0;").towed(0), 0);
        TowedBack x = Check.on("j1;" + Check.repeat("b0 0 0;", 5));
        for (int b = 0; b < 5; b++) check.due("towed(" + b + ")", x.towed(b), 0);
        x.weigh(4, 1);
        check.due("towed(4)", x.towed(4), 1000);
        check.due("towed(0)", x.towed(0), 0);
        x.forgive(4, 999);
        check.due("towed(4)", x.towed(4), 0);
    }

    private static void towedUnknown() {
        check.says("TOWED. UNKNOWN.");
        TowedBack x = Check.on("j1;b0 9 0;");
        for (int b : new int[] {LOWEST, -1, 1, 5, HIGHEST}) check.due("towed(" + b + ")", x.towed(b), UNKNOWN);
        check.due("without water", new TowedBack().towed(0), UNKNOWN);
    }

    private static void mercyOfSoMany() {
        check.says("MERCY: odds that none of n (0 .. 60) is forgiven, each by q of a hundred");
        TowedBack x = new TowedBack();
        for (int q : new int[] {0, 50, 100}) check.due("of none: mercy(0, " + q + ")", x.mercy(0, q), 1000000000);
        check.due("mercy(1, 50)", x.mercy(1, 50), 500000000);
        check.due("mercy(59, 1), cut each time", x.mercy(59, 1), 552683455);
        check.due("mercy(60, 1), cut each time", x.mercy(60, 1), 547156620);
        for (int n : NO_TRIAL_STEPS) check.due("mercy(" + n + ", 50)", x.mercy(n, 50), OUTSIDE);
    }

    private static void mercyIsCutEachTime() {
        check.says("a BILLION times (100 less q) / 100 each (cut)");
        TowedBack x = new TowedBack();
        check.due("none of 0", x.mercy(0, 37), 1000000000);
        check.due("99 of a hundred: 10000000, 100000, 1000, 10, 0", x.mercy(5, 99), 0);
        check.due("mercy(4, 99)", x.mercy(4, 99), 10);
        // 30000000, 900000, 27000, 810, 24 (.3).
        check.due("mercy(5, 97)", x.mercy(5, 97), 24);
        // Halved nine times it is 1953125; from then on the halves are cut.
        check.due("mercy(10, 50)", x.mercy(10, 50), 976562);
        check.due("mercy(29, 50)", x.mercy(29, 50), 1);
        check.due("mercy(30, 50)", x.mercy(30, 50), 0);
        // What is cut once is not there the next time.
        for (int q : new int[] {1, 10, 33, 50, 67, 99}) {
            long odds = 1000000000L;
            for (int n = 0; n <= 60; n++) {
                check.due("mercy(" + n + ", " + q + ")", x.mercy(n, q), (int) odds);
                odds = (odds * (100 - q) - odds * (100 - q) % 100) / 100;
            }
        }
    }

    private static void mercyOfAHundred() {
        check.says("MERCY (q 0 .. 100). OUTSIDE.");
        TowedBack x = new TowedBack();
        check.due("mercy(60, 0)", x.mercy(60, 0), 1000000000);
        check.due("mercy(1, 1)", x.mercy(1, 1), 990000000);
        check.due("mercy(1, 99)", x.mercy(1, 99), 10000000);
        check.due("mercy(1, 100)", x.mercy(1, 100), 0);
        check.due("mercy(60, 100)", x.mercy(60, 100), 0);
        for (int q : new int[] {LOWEST, -100, -1, 101, 200, HIGHEST}) check.due("mercy(0, " + q + ")", x.mercy(0, q), OUTSIDE);
    }
}
