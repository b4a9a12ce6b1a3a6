/** All that can be asked of an object; two objects that answer alike throughout are in the same state. */
final class Snapshot {
    private Snapshot() { }

    /** Asks both for all but fault(); what is kept for later is brought back at the end, so both are used up by it. */
    static void same(Check check, String when, TowedBack x, TowedBack twin) {
        int boats = twin.told(2);
        check.due(when + ", told(2)", x.told(2), boats);
        asked(check, when + ", ", boats, x, twin);
        boolean more = true;
        for (int k = 1; more && k <= 21; k++) {
            int due = twin.undo();
            check.due(when + ", undo() " + k, x.undo(), due);
            more = due >= 0;
            if (more) moved(check, when + ", undone " + k + ": ", boats, x, twin);
        }
        for (int i = 0; i < 2; i++) {
            check.due(when + ", goBack(" + i + ")", x.goBack(i), twin.goBack(i));
            check.due(when + ", the seed of image " + i, Check.seedOf(x), Check.seedOf(twin));
            moved(check, when + ", image " + i + ": ", boats, x, twin);
        }
        check.due(when + ", what is in the text", x.water(), twin.water());
        check.due(when + ", its fault", x.fault(), twin.fault());
    }

    private static void asked(Check check, String when, int boats, TowedBack x, TowedBack twin) {
        check.due(when + "the seed", Check.seedOf(x), Check.seedOf(twin));
        check.due(when + "judge()", x.judge(), twin.judge());
        check.due(when + "changes(2, -1)", x.changes(2, -1), twin.changes(2, -1));
        for (int what = 0; what < 10; what++) check.due(when + "told(" + what + ")", x.told(what), twin.told(what));
        int cuts = twin.told(1);
        for (int c = 0; c < cuts; c++) {
            for (int what = 0; what < 3; what++) check.due(when + "cut(" + c + ", " + what + ")", x.cut(c, what), twin.cut(c, what));
        }
        for (int b = 0; b < boats; b++) {
            for (int what = 0; what < 6; what++) check.due(when + "boat(" + b + ", " + what + ")", x.boat(b, what), twin.boat(b, what));
            check.due(when + "left(" + b + ", -1)", x.left(b, -1), twin.left(b, -1));
            check.due(when + "left(" + b + ", 0)", x.left(b, 0), twin.left(b, 0));
        }
    }

    /** Section 2 in short. */
    private static void moved(Check check, String when, int boats, TowedBack x, TowedBack twin) {
        check.due(when + "told(4)", x.told(4), twin.told(4));
        for (int b = 0; b < boats; b++) {
            for (int what : new int[] {0, 1, 2, 4}) check.due(when + "boat(" + b + ", " + what + ")", x.boat(b, what), twin.boat(b, what));
        }
    }
}
