/** Terms, section 1 and promises 1 to 7: each sentence that names an edge has a test of its own. */
public final class WaterEdgesTest {
    private static final int NONE = Check.NONE, UNKNOWN = Check.UNKNOWN, OUTSIDE = Check.OUTSIDE, NOT = Check.NOT, FULL = Check.FULL;
    private static final int LOWEST = Check.LOWEST, HIGHEST = Check.HIGHEST;
    private static final Check check = new Check();

    public static void main(String[] args) {
        objectServes512Calls();
        numbersAreWhole();
        billion();
        numbersFromZeroOn();
        setsByBits();
        noneIsMinusOne();
        refusalsAreFarBelow();
        textOf240Letters();
        junctionsOneToNine();
        fourteenCuts();
        unlikeJunctions();
        hardUpTo99();
        fiveBoats();
        pullUpTo999();
        wearUpTo99();
        oneToThreeFigures();
        wordIsOneLetter();
        blanksAnywhere();
        noBlanksWithinNumbers();
        onlyBlank32IsABlank();
        numbersSideBySide();
        faultAtTheEnd();
        faultAtTheFirstLetter();
        leastOfTheFaultsAtALetter();
        cannotStandFirst();
        cannotStandForAWord();
        cannotStandForANumber();
        cannotStandBehindANumber();
        fourFiguresOrMore();
        outOfBounds();
        noSuchJunction();
        junctionsAgain();
        fifteenthCut();
        sixthBoat();
        cutToItself();
        cutTwice();
        emptyText();
        newObject();
        feedBounds();
        feedFull();
        waterEmptiesTheText();
        waterBeginsAnew();
        waterLeavesTheSeed();
        waterCountsBoats();
        waterTellsTheFault();
        waterWithAFaultLeavesAllElse();
        faultOfTheLatestWater();
        toldBounds();
        toldFromEmptyToFull();
        cutEdges();
        boatEdges();
        check.end();
    }

    // ---- Terms

    private static void objectServes512Calls() {
        check.says("An object is used for at most 512 calls after it has been made");
        TowedBack x = new TowedBack();
        String text = Check.SEVEN + "b0 999 0;";
        Check.pour(x, text);
        int calls = text.length() + 1;
        for (; calls < 510; calls++) check.due("call " + (calls + 1) + ": turn(0)", x.turn(0), NONE);
        check.due("call 511: step(2)", x.step(2), 0);
        check.due("call 512: where(0, 60, 0)", x.where(0, 60, 0), 62 % 7);
    }

    private static void numbersAreWhole() {
        check.says("All numbers are whole; / cuts towards 0.");
        TowedBack x = Check.on("j1;b0 2 0;b0 1 0;");
        check.due("towed(0): 666 and two thirds", x.towed(0), 666);
        check.due("mercy(10, 50): 976562 and a half", x.mercy(10, 50), 976562);
        // 230538014 becomes 2147483647, which is 32767 times 65536 and 65535: of four 3, so that nothing is forgiven.
        x.seed(230538014);
        x.drift(1);
        check.due("boat(0, 2)", x.boat(0, 2), 2);
        check.due("no more is drawn", Check.seedOf(x), 2147483647);
    }

    private static void billion() {
        check.says("BILLION is 1000000000.");
        check.due("mercy(0, 1)", new TowedBack().mercy(0, 1), 1000000000);
        check.due("mercy(60, 0)", new TowedBack().mercy(60, 0), 1000000000);
    }

    private static void numbersFromZeroOn() {
        check.says("What has a number has it from 0 on, as it comes.");
        TowedBack x = Check.on("j3;c0 1 7;b2 5 5;c2 1 8;b1 6 6;");
        check.due("cut(0, 2)", x.cut(0, 2), 7);
        check.due("cut(1, 2)", x.cut(1, 2), 8);
        check.due("cut(2, 2)", x.cut(2, 2), UNKNOWN);
        check.due("boat(0, 2)", x.boat(0, 2), 5);
        check.due("boat(1, 2)", x.boat(1, 2), 6);
        check.due("boat(2, 2)", x.boat(2, 2), UNKNOWN);
        x.write(0, 2);
        x.write(0, 1);
        check.due("judge(): the second entry has 1", x.judge(), 1);
    }

    private static void setsByBits() {
        check.says("A SET is a whole number, bit k for k.");
        for (int j = 0; j < 9; j++) check.due("told(6), a boat at " + j, Check.on("j9;b" + j + " 0 0;").told(6), 1 << j);
        for (int b = 0; b < 5; b++) {
            String ahead = Check.repeat("b0 9 0;", b), behind = Check.repeat("b0 9 0;", 4 - b);
            TowedBack x = Check.on("j2;c0 1 8;" + ahead + "b0 8 0;" + behind);
            check.due("told(5), boat " + b + " sits", x.told(5), 1 << b);
        }
        check.due("told(5), all sit", Check.on("j1;" + Check.repeat("b0 9 0;", 5)).told(5), 31);
        check.due("told(6), all at one", Check.on("j9;" + Check.repeat("b8 9 0;", 5)).told(6), 256);
        check.due("told(6), none", Check.on("j9;").told(6), 0);
        check.due("dry(0), all", Check.on("j9;").dry(0), 511);
    }

    private static void noneIsMinusOne() {
        check.says("NONE is -1.");
        check.due("NONE", TowedBack.NONE, -1);
        check.due("boat(0, 5) without a quay", Check.on("j1;b0 0 0;").boat(0, 5), -1);
    }

    private static void refusalsAreFarBelow() {
        check.says("They are far below all that is counted: -1000000001 and on.");
        check.due("UNKNOWN", new TowedBack().boat(0, 0), -1000000001);
        check.due("OUTSIDE", new TowedBack().feed(-1), -1000000002);
        check.due("NOT", new TowedBack().undo(), -1000000003);
        TowedBack x = new TowedBack();
        for (int k = 0; k < 240; k++) x.feed('x');
        check.due("FULL", x.feed('x'), -1000000004);
    }

    // ---- section 1

    private static void textOf240Letters() {
        check.says("THE WATER is told in a text (240 letters at most)");
        String good = "j1;b0 999 99;";
        check.reads(good + Check.repeat(" ", 240 - good.length()), 1);
        check.reads("j1;" + Check.repeat(" ", 240 - good.length()) + "b0 999 99;", 1);
        check.due("the letter behind them is not read", Check.pour(new TowedBack(), Check.repeat(" ", 237) + "j1;x"), 0);
        check.faulty(Check.repeat(" ", 238) + "j1;", 1, 240);
    }

    private static void junctionsOneToNine() {
        check.says("'j' N ';' (JUNCTIONS 0 .. N less 1, N 1 .. 9; first, once)");
        check.faulty("j0;", 2, 1);
        for (int n = 1; n <= 9; n++) {
            TowedBack x = Check.on("j" + n + ";");
            check.due("told(0) of j" + n, x.told(0), n);
            check.reads("j" + n + ";b" + (n - 1) + " 0 0;", 1);
            check.faulty("j" + n + ";b" + n + " 0 0;", 2, 4);
        }
        check.faulty("j10;", 2, 1);
        check.faulty("j999;", 2, 1);
        check.faulty("b0 0 0;j1;", 1, 0);
        check.faulty("j1;b0 0 0;j1;", 3, 10);
    }

    private static void fourteenCuts() {
        check.says("(14 CUTS at most between unlike JUNCTIONS, no two between the same: as HARD as H, 0 .. 99)");
        check.reads("j9;" + Check.FOURTEEN, 0);
        TowedBack x = Check.on("j9;" + Check.FOURTEEN);
        check.due("told(1)", x.told(1), 14);
        check.due("cut(13, 1)", x.cut(13, 1), 7);
        check.faulty("j9;" + Check.FOURTEEN + "c7 8 0;", 3, 3 + Check.FOURTEEN.length());
    }

    private static void unlikeJunctions() {
        check.says("between unlike JUNCTIONS, no two between the same");
        for (int j = 0; j < 9; j++) check.faulty("j9;c" + j + " " + j + " 5;", 4, 6);
        check.reads("j3;c0 1 5;c1 2 5;c2 0 5;", 0);
        check.faulty("j3;c0 1 5;c1 2 5;c2 0 5;c0 2 6;", 4, 27);
        check.faulty("j3;c0 1 5;c1 2 5;c2 0 5;c2 0 5;", 4, 27);
    }

    private static void hardUpTo99() {
        check.says("as HARD as H, 0 .. 99");
        check.due("hard 0", Check.on("j2;c0 1 0;").cut(0, 2), 0);
        check.due("hard 99", Check.on("j2;c0 1 99;").cut(0, 2), 99);
        check.due("hard 099", Check.on("j2;c0 1 099;").cut(0, 2), 99);
        check.faulty("j2;c0 1 100;", 2, 8);
        check.faulty("j2;c0 1 999;", 2, 8);
    }

    private static void fiveBoats() {
        check.says("(5 BOATS at most: at JUNCTION A, PULLED by P, 0 .. 999; that WEARS by W, 0 .. 99, each time it goes on)");
        for (int boats = 0; boats <= 5; boats++) check.reads("j1;" + Check.repeat("b0 1 1;", boats), boats);
        check.faulty("j1;" + Check.repeat("b0 1 1;", 6), 3, 38);
        check.due("five, cuts between", Check.pour(new TowedBack(), "j9;" + Check.FOURTEEN + Check.repeat("b0 1 1;", 5)), 5);
    }

    private static void pullUpTo999() {
        check.says("PULLED by P, 0 .. 999");
        check.due("pull 0", Check.on("j1;b0 0 0;").boat(0, 2), 0);
        check.due("pull 999", Check.on("j1;b0 999 0;").boat(0, 2), 999);
        check.faulty("j1;b0 1000 0;", 2, 6);
    }

    private static void wearUpTo99() {
        check.says("that WEARS by W, 0 .. 99, each time it goes on");
        check.due("wear 0", Check.on("j1;b0 0 0;").boat(0, 3), 0);
        check.due("wear 99", Check.on("j1;b0 0 99;").boat(0, 3), 99);
        check.faulty("j1;b0 0 100;", 2, 8);
        TowedBack x = Check.on("j2;c0 1 0;b0 500 99;b1 0 99;");
        x.step(2);
        check.due("it went on once", x.boat(0, 2), 401);
        check.due("it did not go on", x.boat(1, 2), 0);
    }

    private static void oneToThreeFigures() {
        check.says("NUMBERS have one to three figures");
        for (String two : new String[] {"2", "02", "002"}) {
            check.reads("j" + two + ";c1 0 " + two + ";b1 " + two + " " + two + ";", 1);
            TowedBack x = Check.on("j" + two + ";c1 0 " + two + ";b1 " + two + " " + two + ";");
            check.due("told(0) of " + two, x.told(0), 2);
            check.due("cut(0, 2) of " + two, x.cut(0, 2), 2);
            check.due("boat(0, 2) of " + two, x.boat(0, 2), 2);
            check.due("boat(0, 3) of " + two, x.boat(0, 3), 2);
        }
        check.reads("j2;c001 000 5;b001 0 0;", 1);
        check.faulty("j0002;", 2, 1);
        check.faulty("j;", 1, 1);
        check.faulty("j2;c0 1;", 1, 7);
        check.faulty("j2;b;", 1, 4);
    }

    private static void wordIsOneLetter() {
        check.says("a word is one letter");
        check.faulty("jj2;", 1, 1);
        check.faulty("jc2;", 1, 1);
        check.faulty("j2;cc0 1 5;", 1, 4);
        check.faulty("j2;cb0 1 5;", 1, 4);
        check.faulty("j2;bb0 1 5;", 1, 4);
        check.faulty("j2;cut0 1 5;", 1, 4);
        check.faulty("j2;;b0 1 5;", 1, 3);
    }

    private static void blanksAnywhere() {
        check.says("blanks (32) may stand anywhere but within NUMBERS");
        String[] parts = {"j", "3", ";", "c", "0", " 1", " 25", ";", "b", "2", " 340", " 10", ";"};
        for (int gap = 0; gap <= parts.length; gap++) {
            StringBuilder text = new StringBuilder();
            for (int k = 0; k <= parts.length; k++) {
                if (k == gap) text.append("   ");
                if (k < parts.length) text.append(parts[k]);
            }
            check.reads(text.toString(), 1);
            TowedBack x = Check.on(text.toString());
            check.due("cut(0, 2) of '" + text + "'", x.cut(0, 2), 25);
            check.due("boat(0, 2) of '" + text + "'", x.boat(0, 2), 340);
            check.due("boat(0, 3) of '" + text + "'", x.boat(0, 3), 10);
        }
    }

    private static void noBlanksWithinNumbers() {
        check.says("anywhere but within NUMBERS");
        check.faulty("j3;c0 1 2 5;", 1, 10);
        check.faulty("j3;b0 34 0 10;", 1, 11);
        check.faulty("j0 3;", 2, 1);
        check.faulty("j1 0;", 1, 3);
    }

    private static void onlyBlank32IsABlank() {
        check.says("blanks (32)");
        for (int letter : new int[] {0, 9, 10, 11, 12, 13, 31, 33, 95, 160, 255}) {
            char sign = (char) letter;
            check.faulty(sign + "j1;", 1, 0);
            check.faulty("j" + sign + "1;", 1, 1);
            check.faulty("j1" + sign + ";", 1, 2);
            check.faulty("j1;" + sign, 1, 3);
            check.faulty("j1;b0" + sign + "1 1;", 1, 5);
        }
        check.reads(" j1;", 0);
    }

    private static void numbersSideBySide() {
        check.says("two NUMBERS side by side need one");
        check.faulty("j2;c01 5;", 2, 7);
        check.faulty("j2;c01 1;", 4, 7);
        check.faulty("j2;c0 15;", 2, 6);
        check.faulty("j2;c015;", 2, 4);
        check.faulty("j2;b0 55;", 1, 8);
        check.faulty("j2;b0 5555;", 2, 6);
        check.reads("j2;c0 1 5;b0 5 5;", 1);
    }

    private static void faultAtTheEnd() {
        check.says("(the end at the text's length)");
        for (int length = 1; length < Check.RING.length(); length++) {
            String begun = Check.RING.substring(0, length);
            if (begun.endsWith(";")) continue;
            check.faulty(begun, 1, length);
            check.faulty(begun + "  ", 1, length + 2);
        }
        for (int length = 3; length <= Check.RING.length(); length++) {
            String whole = Check.RING.substring(0, length);
            int boats = whole.length() - whole.replace("b", "").length();
            if (whole.endsWith(";")) check.reads(whole, boats);
        }
    }

    private static void faultAtTheFirstLetter() {
        check.says("FAULTS, at the first letter that has one");
        check.faulty("j0;x", 2, 1);
        check.faulty("jx0000", 1, 1);
        check.faulty("j2;c2 2 100x", 2, 4);
        check.faulty("j2;c0 0 100;", 4, 6);
        check.faulty("j2;c0 0x", 4, 6);
        check.faulty("j2;c0 1 100x", 2, 8);
        check.faulty("j2;b2 1000 100", 2, 4);
        check.faulty("j2;b0 1000 100", 2, 6);
        check.faulty("j2;jj0;", 3, 3);
        check.faulty("j2;c0 1 5;c1 0 100;j", 4, 13);
        check.faulty("j2;xj", 1, 3);
    }

    private static void leastOfTheFaultsAtALetter() {
        check.says("of these the least");
        check.faulty("j2;1234", 1, 3);
        check.faulty("j2 1234;", 1, 3);
        check.faulty("1234", 1, 0);
        check.faulty("j2;c0 1 5 1000;", 1, 10);
        check.faulty("j2;c j", 1, 5);
        check.faulty("j2;b0 j", 1, 6);
        check.faulty("j1;" + Check.repeat("b0 0 0;", 4) + "b0 0 0b", 1, 37);
        check.faulty("j9;" + Check.FOURTEEN.substring(0, Check.FOURTEEN.length() - 1) + "c", 1, 2 + Check.FOURTEEN.length());
    }

    private static void cannotStandFirst() {
        check.says("1 it cannot stand there (a letter that is no word, another word first than 'j')");
        for (int letter = 0; letter <= 255; letter++) {
            String text = String.valueOf((char) letter);
            if (letter == 'j') check.faulty(text, 1, 1);
            else if (letter == ' ') check.reads(text, 0);
            else check.faulty(text, 1, 0);
        }
        check.faulty("c0 1 5;", 1, 0);
        check.faulty("b0 0 0;", 1, 0);
    }

    private static void cannotStandForAWord() {
        check.says("a letter that is no word");
        for (int letter = 0; letter <= 255; letter++) {
            String text = "j5;" + (char) letter;
            if (letter == 'j') check.faulty(text, 3, 3);
            else if (letter == 'c' || letter == 'b') check.faulty(text, 1, 4);
            else if (letter == ' ') check.reads(text, 0);
            else check.faulty(text, 1, 3);
        }
    }

    private static void cannotStandForANumber() {
        check.says("1 it cannot stand there");
        for (int letter = 0; letter <= 255; letter++) {
            boolean figure = letter >= '0' && letter <= '9';
            char sign = (char) letter;
            if (letter == '0') check.faulty("j" + sign, 2, 1);
            else check.faulty("j" + sign, 1, figure || letter == ' ' ? 2 : 1);
            if (figure && letter >= '5') check.faulty("j5;c" + sign, 2, 4);
            else check.faulty("j5;c" + sign, 1, figure || letter == ' ' ? 5 : 4);
            check.faulty("j5;b0 " + sign, 1, figure || letter == ' ' ? 7 : 6);
        }
    }

    private static void cannotStandBehindANumber() {
        check.says("1 it cannot stand there");
        for (int letter = 0; letter <= 255; letter++) {
            boolean figure = letter >= '0' && letter <= '9';
            char sign = (char) letter;
            if (letter == ';') check.reads("j5" + sign, 0);
            else if (figure) check.faulty("j5" + sign, 2, 1);
            else check.faulty("j5" + sign, 1, letter == ' ' ? 3 : 2);
            if (letter == ';') check.reads("j5;b0 7 7" + sign, 1);
            else check.faulty("j5;b0 7 7" + sign, 1, figure || letter == ' ' ? 10 : 9);
        }
    }

    private static void fourFiguresOrMore() {
        check.says("2 a NUMBER of four figures or more");
        for (String many : new String[] {"0000", "0001", "00001", "9999", "2147483648", "4294967297", Check.repeat("0", 200) + "1"}) {
            check.faulty("j" + many + ";", 2, 1);
            check.faulty("j2;c" + many + " 0 5;", 2, 4);
            check.faulty("j2;c0 " + many + " 5;", 2, 6);
            check.faulty("j2;c0 1 " + many + ";", 2, 8);
            check.faulty("j2;b" + many + " 5 5;", 2, 4);
            check.faulty("j2;b0 " + many + " 5;", 2, 6);
            check.faulty("j2;b0 5 " + many + ";", 2, 8);
        }
        check.faulty("j0001", 2, 1);
    }

    private static void outOfBounds() {
        check.says("or out of its bounds");
        check.faulty("j0;", 2, 1);
        check.faulty("j000;", 2, 1);
        check.faulty("j10;", 2, 1);
        check.faulty("j010;", 2, 1);
        check.faulty("j2;c0 1 100;", 2, 8);
        check.faulty("j2;b0 5 100;", 2, 8);
        check.faulty("j2;b0  5   999;", 2, 11);
    }

    private static void noSuchJunction() {
        check.says("a JUNCTION that there is not (at its first)");
        check.faulty("j2;c2 0 5;", 2, 4);
        check.faulty("j2;c0 2 5;", 2, 6);
        check.faulty("j2;b2 5 5;", 2, 4);
        check.faulty("j2;c 012 0 5;", 2, 5);
        check.faulty("j2;c0  999 5;", 2, 7);
        check.faulty("j9;b9 5 5;", 2, 4);
        check.reads("j9;c8 7 5;b8 5 5;", 1);
        check.faulty("j1;c0 1 5;", 2, 6);
    }

    private static void junctionsAgain() {
        check.says("3 'j' again");
        check.faulty("j2;j2;", 3, 3);
        check.faulty("j2; j", 3, 4);
        check.faulty("j2;c0 1 5;jx", 3, 10);
        check.faulty("j2;b0 5 5;j0", 3, 10);
    }

    private static void fifteenthCut() {
        check.says("a fifteenth 'c'");
        String full = "j9;" + Check.FOURTEEN;
        check.faulty(full + "c", 3, full.length());
        check.faulty(full + " c7 8 5;", 3, full.length() + 1);
        check.faulty(full + "c0 0 0;", 3, full.length());
        check.faulty(full + "b0 5 5;c7 8 5;", 3, full.length() + 7);
        check.reads(full + "b0 5 5;", 1);
    }

    private static void sixthBoat() {
        check.says("a sixth 'b' (at it)");
        String full = "j2;" + Check.repeat("b1 5 5;", 5);
        check.faulty(full + "b", 3, full.length());
        check.faulty(full + "  b0 5 5;", 3, full.length() + 2);
        check.faulty(full + "b9 5 5;", 3, full.length());
        check.faulty(full + "c0 1 5;b0 5 5;", 3, full.length() + 7);
        check.reads(full + "c0 1 5;", 5);
    }

    private static void cutToItself() {
        check.says("4 B like A, both have a CUT (at the B)");
        check.faulty("j1;c0 0 5;", 4, 6);
        check.faulty("j9;c8   8 5;", 4, 8);
        check.faulty("j9;c8 008 5;", 4, 6);
        check.faulty("j9;c8 8", 4, 6);
    }

    private static void cutTwice() {
        check.says("both have a CUT (at the B)");
        check.faulty("j2;c0 1 5;c0 1 5;", 4, 13);
        check.faulty("j2;c0 1 5;c1 0 6;", 4, 13);
        check.faulty("j2;c0 1 5;c01 00 6;", 4, 14);
        check.faulty("j9;c0 1 5;c7 8 5;b0 0 0;c8 7", 4, 27);
        String thirteen = Check.FOURTEEN.substring(0, Check.FOURTEEN.lastIndexOf('c'));
        check.faulty("j9;" + thirteen + "c6 1 5;", 4, 3 + thirteen.length() + 3);
        check.reads("j9;" + thirteen + "c6 2 5;", 0);
    }

    private static void emptyText() {
        check.says("An empty text: no WATER.");
        TowedBack x = Check.on(Check.RING);
        x.step(1);
        check.due("water() of nothing", x.water(), 0);
        check.due("fault()", x.fault(), NONE);
        for (int what = 0; what < 10; what++) check.due("told(" + what + ")", x.told(what), 0);
        check.due("boat(0, 0)", x.boat(0, 0), UNKNOWN);
        check.due("cut(0, 0)", x.cut(0, 0), UNKNOWN);
        check.due("step(1)", x.step(1), NOT);
        check.due("drift(1)", x.drift(1), NOT);
        check.due("dry(60)", x.dry(60), 0);
        check.due("changes(60, -1)", x.changes(60, NONE), 0);
        Check.pour(x, Check.RING);
        Check.pour(x, Check.RING);
        check.due("water() of nothing behind two waters", x.water(), 0);
        for (int what = 0; what < 10; what++) check.due("told(" + what + ") behind two waters", x.told(what), 0);
        check.reads("", 0);
        check.reads(" ", 0);
        check.reads(Check.repeat(" ", 240), 0);
    }

    // ---- promises 1 to 7

    private static void newObject() {
        check.says("`TowedBack()`: No WATER.");
        TowedBack x = new TowedBack();
        for (int what = 0; what < 10; what++) check.due("told(" + what + ")", x.told(what), 0);
        check.due("fault()", x.fault(), NONE);
        check.due("step(1)", x.step(1), NOT);
        check.due("boat(0, 0)", x.boat(0, 0), UNKNOWN);
        check.due("see(0, 0, 0)", x.see(0, 0, 0), UNKNOWN);
        check.due("write(0, 0)", x.write(0, 0), UNKNOWN);
        check.due("left(0, -1)", x.left(0, NONE), UNKNOWN);
        check.due("look(0)", x.look(0), UNKNOWN);
        check.due("goBack(0)", x.goBack(0), NOT);
        check.due("goBack(1)", x.goBack(1), NOT);
        check.due("seed(0)", x.seed(0), 0);
        TowedBack other = Check.on(Check.RING);
        check.due("another object has its own", other.told(2) - new TowedBack().told(2), 3);
    }

    private static void feedBounds() {
        check.says("One letter (a number 0 .. 255) comes behind THE TEXT: how many it has.");
        TowedBack x = new TowedBack();
        for (int letter : new int[] {LOWEST, -256, -1, 256, 257, 'j' + 256, HIGHEST}) check.due("feed(" + letter + ")", x.feed(letter), OUTSIDE);
        check.due("told(3)", x.told(3), 0);
        check.due("feed(0)", x.feed(0), 1);
        check.due("feed(255)", x.feed(255), 2);
        check.due("told(3)", x.told(3), 2);
    }

    private static void feedFull() {
        check.says("OUTSIDE, FULL (240).");
        TowedBack x = new TowedBack();
        String text = "j2;" + Check.repeat(" ", 226) + "b0 999 99 ;";
        for (int k = 0; k < 240; k++) check.due("feed, the " + (k + 1) + "th", x.feed(text.charAt(k)), k + 1);
        check.due("the 241st", x.feed('x'), FULL);
        check.due("and again", x.feed(' '), FULL);
        check.due("outside first", x.feed(-1), OUTSIDE);
        check.due("outside first", x.feed(256), OUTSIDE);
        check.due("told(3)", x.told(3), 240);
        check.due("what was refused is not in the text", x.water(), 1);
        check.due("there is room again", x.feed('j'), 1);
    }

    private static void waterEmptiesTheText() {
        check.says("THE TEXT (it is empty then, with a FAULT, too) becomes THE WATER");
        TowedBack x = new TowedBack();
        check.due("a good text", Check.pour(x, "j2;"), 0);
        check.due("told(3)", x.told(3), 0);
        check.due("a text with a fault", Check.pour(x, "j2;x"), -11);
        check.due("told(3)", x.told(3), 0);
        check.due("nothing of it is ahead of the next", Check.pour(x, "j3;b2 0 0;"), 1);
        check.due("nothing of that is left", x.water(), 0);
        check.due("feed('j')", x.feed('j'), 1);
        TowedBack often = new TowedBack();
        for (int k = 0; k < 3; k++) {
            check.due("a full water", Check.pour(often, Check.RING), 3);
            check.due("its cuts", often.told(1), 6);
            check.due("a small one", Check.pour(often, "j2;c0 1 7;b1 9 9;"), 1);
            check.due("its junctions", often.told(0), 2);
            check.due("its cuts", often.told(1), 1);
            check.due("a fault behind good clauses", Check.pour(often, "j9;c7 8 5;b8 9 9;b8 9 9;x"), -11);
        }
    }

    private static void waterBeginsAnew() {
        check.says("(no STEPS, QUAYS; nothing SEEN, no BOOK; IMAGES, what could be undone are gone; THE SEED stays)");
        for (String text : new String[] {Check.RING, "j6;b0 1 1;b0 1 1;b0 1 1;", "", "  "}) {
            TowedBack x = Check.on(Check.RING);
            x.keep(0);
            x.keep(1);
            x.step(3);
            for (int b = 0; b < 3; b++) x.quay(b, b);
            x.see(0, 1, 1);
            x.write(0, 1);
            Check.pour(x, text);
            check.due("told(4)", x.told(4), 0);
            check.due("told(7)", x.told(7), 0);
            check.due("told(8)", x.told(8), 0);
            check.due("told(9)", x.told(9), 0);
            check.due("undo()", x.undo(), NOT);
            check.due("goBack(0)", x.goBack(0), NOT);
            check.due("goBack(1)", x.goBack(1), NOT);
            for (int b = 0; b < x.told(2); b++) {
                check.due("boat(" + b + ", 5)", x.boat(b, 5), NONE);
                check.due("boat(" + b + ", 1)", x.boat(b, 1), NONE);
                check.due("boat(" + b + ", 4)", x.boat(b, 4), 0);
            }
        }
    }

    private static void waterLeavesTheSeed() {
        check.says("THE SEED stays): how many BOATS");
        TowedBack x = Check.on(Check.RING);
        x.seed(2147483647);
        Check.pour(x, Check.RING);
        check.due("behind a good text", Check.seedOf(x), 2147483647);
        Check.pour(x, "x");
        check.due("behind a fault", Check.seedOf(x), 2147483647);
        x.water();
        check.due("behind an empty text", Check.seedOf(x), 2147483647);
    }

    private static void waterCountsBoats() {
        check.says("how many BOATS; -10 less the number of its FAULT");
        TowedBack x = new TowedBack();
        check.due("none", Check.pour(x, "j1;"), 0);
        check.due("five", Check.pour(x, "j1;" + Check.repeat("b0 0 0;", 5)), 5);
        check.due("one behind five", Check.pour(x, "j1;b0 0 0;"), 1);
        check.due("told(2)", x.told(2), 1);
    }

    private static void waterTellsTheFault() {
        check.says("-10 less the number of its FAULT");
        TowedBack x = new TowedBack();
        check.due("fault 1", Check.pour(x, "x"), -11);
        check.due("fault 2", Check.pour(x, "j0;"), -12);
        check.due("fault 3", Check.pour(x, "j1;j"), -13);
        check.due("fault 4", Check.pour(x, "j1;c0 0"), -14);
    }

    private static void waterWithAFaultLeavesAllElse() {
        check.says("(all else is as it was)");
        String[] texts = {"x", "j0;", "j2;j", "j2;c0 0 0;", "j2;c0 1 99;b0 1 1;b1 1 1;b0 1 1;b1 1 1;x", "j1"};
        for (String text : texts) {
            TowedBack x = Check.on(Check.RING), twin = Check.on(Check.RING);
            for (TowedBack one : new TowedBack[] {x, twin}) {
                one.seed(5);
                one.keep(1);
                one.step(2);
                one.quay(1, 4);
                one.see(2, 3, 1);
                one.write(0, 2);
            }
            check.due("'" + text + "' has a fault", Check.pour(x, text) < -10 ? 1 : 0, 1);
            Snapshot.same(check, "behind '" + text + "'", x, twin);
        }
    }

    private static void faultOfTheLatestWater() {
        check.says("The letter of the FAULT of the latest water(); NONE.");
        TowedBack x = new TowedBack();
        check.due("ahead of any", x.fault(), NONE);
        Check.pour(x, "j2;x");
        check.due("at 3", x.fault(), 3);
        x.feed('z');
        check.due("while the next is fed", x.fault(), 3);
        x.water();
        check.due("at 0", x.fault(), 0);
        Check.pour(x, "j2;");
        check.due("of a good one", x.fault(), NONE);
        Check.pour(x, Check.repeat(" ", 239) + "j");
        check.due("at the end of a full text", x.fault(), 240);
        x.water();
        check.due("of an empty one", x.fault(), NONE);
    }

    private static void toldBounds() {
        check.says("8 entries of THE BOOK, 9 how many can be undone. OUTSIDE.");
        for (TowedBack x : new TowedBack[] {new TowedBack(), Check.on(Check.RING)}) {
            for (int what : new int[] {LOWEST, -2, -1, 10, 11, HIGHEST}) check.due("told(" + what + ")", x.told(what), OUTSIDE);
        }
    }

    private static void toldFromEmptyToFull() {
        check.says("0 JUNCTIONS, 1 CUTS, 2 BOATS, 3 letters of THE TEXT, 4 STEPS, 5 BOATS that SIT now (a SET), 6 JUNCTIONS with a BOAT (a SET), 7 what is SEEN, 8 entries of THE BOOK, 9 how many can be undone.");
        TowedBack x = Check.on("j9;" + Check.FOURTEEN + "b0 999 0;b8 7 0;b8 8 0;b7 6 0;b7 7 0;");
        int[] full = {9, 14, 5, 240, 60, 0, 0, 6, 15, 20};
        check.due("told(5)", x.told(5), 2 + 8);
        check.due("told(6)", x.told(6), 1 + 256 + 128);
        for (int k = 0; k < 240; k++) x.feed(' ');
        for (int k = 0; k < 6; k++) x.see(0, 0, 0);
        for (int k = 0; k < 15; k++) x.write(0, 0);
        x.step(60);
        for (int k = 0; k < 21; k++) x.turn(1);
        for (int what : new int[] {0, 1, 2, 3, 4, 7, 8, 9}) check.due("told(" + what + ")", x.told(what), full[what]);
    }

    private static void cutEdges() {
        check.says("Of a CUT: what = 0 A, 1 B, 2 H. UNKNOWN, OUTSIDE.");
        TowedBack x = Check.on("j9;" + Check.FOURTEEN);
        check.due("cut(0, 0)", x.cut(0, 0), 0);
        check.due("cut(0, 1)", x.cut(0, 1), 1);
        check.due("cut(0, 2)", x.cut(0, 2), 0);
        check.due("cut(13, 0)", x.cut(13, 0), 1);
        check.due("cut(13, 1)", x.cut(13, 1), 7);
        check.due("cut(13, 2)", x.cut(13, 2), 99);
        for (int c : new int[] {LOWEST, -1, 14, 15, HIGHEST}) {
            check.due("cut(" + c + ", 0)", x.cut(c, 0), UNKNOWN);
            check.due("unknown first: cut(" + c + ", 3)", x.cut(c, 3), UNKNOWN);
        }
        for (int what : new int[] {LOWEST, -1, 3, HIGHEST}) check.due("cut(13, " + what + ")", x.cut(13, what), OUTSIDE);
        Check.pour(x, "j9;c8 0 5;");
        check.due("as it was told: cut(0, 0)", x.cut(0, 0), 8);
        check.due("cut(1, 0): gone with the other water", x.cut(1, 0), UNKNOWN);
    }

    private static void boatEdges() {
        check.says("Of a BOAT: what = 0 the JUNCTION, 1 FROM where (NONE), 2 PULL, 3 W, 4 how many JUNCTIONS it went to, 5 its QUAY (NONE). UNKNOWN, OUTSIDE.");
        TowedBack x = Check.on("j9;c8 7 0;" + Check.repeat("b0 0 0;", 4) + "b8 999 99;");
        int[] atFirst = {8, NONE, 999, 99, 0, NONE}, thereafter = {7, 8, 900, 99, 1, 0};
        for (int what = 0; what < 6; what++) check.due("boat(4, " + what + ")", x.boat(4, what), atFirst[what]);
        x.step(60);
        x.quay(4, 0);
        for (int what = 0; what < 6; what++) check.due("boat(4, " + what + ") then", x.boat(4, what), thereafter[what]);
        for (int b : new int[] {LOWEST, -1, 5, 6, HIGHEST}) {
            check.due("boat(" + b + ", 0)", x.boat(b, 0), UNKNOWN);
            check.due("unknown first: boat(" + b + ", 6)", x.boat(b, 6), UNKNOWN);
        }
        for (int what : new int[] {LOWEST, -1, 6, HIGHEST}) check.due("boat(4, " + what + ")", x.boat(4, what), OUTSIDE);
        Check.pour(x, "j1;b0 0 0;");
        check.due("boat(1, 0): gone with the other water", x.boat(1, 0), UNKNOWN);
    }
}
