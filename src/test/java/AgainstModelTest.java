import java.util.Random;

/** Many runs of calls drawn from fixed seeds, each answer held against the slow model's: all promises. */
public final class AgainstModelTest {
    private static final int RUNS = 500, CALLS = 150;
    private static final Check check = new Check();
    private static Random random;
    private static TowedBack x;
    private static Model model;

    public static void main(String[] args) {
        for (int run = 0; run < RUNS; run++) {
            random = new Random(run);
            x = new TowedBack();
            model = new Model();
            if (random.nextInt(10) > 0) pour("run " + run + ", ", goodText());
            for (int k = 0; k < CALLS; k++) call("run " + run + ", call " + k + ": ");
        }
        for (int run = 0; run < 20000; run++) faultyText(run);
        check.end();
    }

    private static void faultyText(int run) {
        random = new Random(1000000 + run);
        x = new TowedBack();
        model = new Model();
        pour("text " + run + ", ", spoilt(goodText()));
        for (int what = 0; what < 10; what++) check.due("text " + run + ": told(" + what + ")", x.told(what), model.told(what));
    }

    private static void pour(String tag, String text) {
        for (int k = 0; k < text.length(); k++) check.due(tag + "feed", x.feed(text.charAt(k)), model.feed(text.charAt(k)));
        check.due(tag + "water() of '" + text + "'", x.water(), model.water());
        check.due(tag + "fault() of '" + text + "'", x.fault(), model.fault());
    }

    private static String goodText() {
        int junctions = 1 + random.nextInt(9);
        StringBuilder text = new StringBuilder().append('j').append(junctions).append(';');
        boolean[][] joined = new boolean[9][9];
        int mostHard = 1 + random.nextInt(100);
        int cuts = random.nextInt(17);
        for (int k = 0, done = 0; k < cuts && done < 14; k++) {
            int a = random.nextInt(junctions), b = random.nextInt(junctions);
            if (a == b || joined[a][b]) continue;
            joined[a][b] = joined[b][a] = true;
            done++;
            text.append('c').append(a).append(' ').append(b).append(' ').append(random.nextInt(mostHard)).append(';');
        }
        int boats = random.nextInt(6);
        int mostWear = random.nextBoolean() ? 100 : 4;
        for (int k = 0; k < boats; k++) {
            text.append('b').append(random.nextInt(junctions)).append(' ').append(random.nextInt(random.nextBoolean() ? 1000 : 100));
            text.append(' ').append(random.nextInt(mostWear)).append(';');
        }
        return text.toString();
    }

    private static String spoilt(String good) {
        if (random.nextInt(100) == 0) return Check.repeat(" ", random.nextInt(5));
        StringBuilder text = new StringBuilder(good);
        String signs = "jjccbb;;  00123456789xJ,-" + (char) 0 + (char) 9 + (char) 200;
        int times = random.nextInt(4);
        for (int k = 0; k < times; k++) {
            int at = random.nextInt(text.length() + 1);
            char sign = signs.charAt(random.nextInt(signs.length()));
            int kind = random.nextInt(4);
            if (kind == 0 || at == text.length()) text.insert(at, sign);
            else if (kind == 1) text.setCharAt(at, sign);
            else if (kind == 2) text.deleteCharAt(at);
            else text.insert(at, text.substring(at, Math.min(text.length(), at + 8)));
            if (text.length() == 0) text.append(sign);
        }
        if (random.nextInt(20) == 0) text.setLength(random.nextInt(text.length()));
        return text.toString();
    }

    /** A boat, now and then one that there is not. */
    private static int someBoat() {
        int boats = model.told(2);
        if (random.nextInt(100) == 0) return random.nextBoolean() ? Integer.MIN_VALUE : Integer.MAX_VALUE;
        return random.nextInt(12) == 0 || boats == 0 ? random.nextInt(8) - 2 : random.nextInt(boats);
    }

    private static int someJunction() {
        int junctions = model.told(0);
        if (random.nextInt(100) == 0) return random.nextBoolean() ? Integer.MIN_VALUE : Integer.MAX_VALUE;
        return random.nextInt(12) == 0 || junctions == 0 ? random.nextInt(12) - 2 : random.nextInt(junctions);
    }

    /** low .. high, now and then one beside them or far off, often one at the edge. */
    private static int some(int low, int high) {
        int kind = random.nextInt(20);
        if (kind == 4) return random.nextInt(4) > 0 ? low : random.nextBoolean() ? Integer.MIN_VALUE : Integer.MAX_VALUE;
        if (kind == 0) return low - 1;
        if (kind == 1) return high + 1;
        if (kind == 2) return low;
        if (kind == 3) return high;
        return low + random.nextInt(high - low + 1);
    }

    private static void call(String tag) {
        int kind = random.nextInt(100);
        if (kind < 30) ask(tag);
        else if (kind < 55) act(tag);
        else if (kind < 80) tryOut(tag);
        else if (kind < 96) witness(tag);
        else anew(tag);
    }

    private static void ask(String tag) {
        int b = someBoat(), what = some(0, 5), c = some(0, 13), part = some(0, 2), of = some(0, 9);
        check.due(tag + "boat(" + b + ", " + what + ")", x.boat(b, what), model.boat(b, what));
        check.due(tag + "cut(" + c + ", " + part + ")", x.cut(c, part), model.cut(c, part));
        check.due(tag + "told(" + of + ")", x.told(of), model.told(of));
        check.due(tag + "fault()", x.fault(), model.fault());
        check.due(tag + "judge()", x.judge(), model.judge());
    }

    private static void act(String tag) {
        int b = someBoat(), other = someBoat(), n = random.nextInt(3) == 0 ? some(1, 60) : some(1, 3), much = some(1, 999), j = someJunction();
        switch (random.nextInt(9)) {
            case 0: check.due(tag + "step(" + n + ")", x.step(n), model.step(n)); break;
            case 1: check.due(tag + "forgive(" + b + ", " + much + ")", x.forgive(b, much), model.forgive(b, much)); break;
            case 2: check.due(tag + "weigh(" + b + ", " + much + ")", x.weigh(b, much), model.weigh(b, much)); break;
            case 3: check.due(tag + "change(" + b + ", " + other + ")", x.change(b, other), model.change(b, other)); break;
            case 4: check.due(tag + "turn(" + b + ")", x.turn(b), model.turn(b)); break;
            case 5: check.due(tag + "drift(" + n + ")", x.drift(n), model.drift(n)); break;
            case 6: check.due(tag + "undo()", x.undo(), model.undo()); break;
            default: setQuay(tag, b, random.nextInt(4) == 0 ? -1 : j);
        }
    }

    /** Half of the quays are such that the boat can come there by somebody's pull. */
    private static void setQuay(String tag, int b, int j) {
        int quay = random.nextBoolean() ? j : model.where(b, 5, 0);
        check.due(tag + "quay(" + b + ", " + quay + ")", x.quay(b, quay), model.quay(b, quay));
    }

    private static void tryOut(String tag) {
        int b = someBoat(), j = someJunction(), n = random.nextBoolean() ? some(0, 60) : some(0, 6), what = some(0, 1), q = some(0, 100);
        int who = random.nextBoolean() ? -1 : b;
        switch (random.nextInt(9)) {
            case 0: check.due(tag + "where(" + b + ", " + n + ", " + what + ")", x.where(b, n, what), model.where(b, n, what)); break;
            case 1: check.due(tag + "sits(" + b + ")", x.sits(b), model.sits(b)); break;
            case 2: check.due(tag + "round(" + b + ")", x.round(b), model.round(b)); break;
            case 3: check.due(tag + "least(" + b + ", " + j + ", " + what + ")", x.least(b, j, what), model.least(b, j, what)); break;
            case 4: check.due(tag + "dry(" + n + ")", x.dry(n), model.dry(n)); break;
            case 5: check.due(tag + "towed(" + b + ")", x.towed(b), model.towed(b)); break;
            case 6: check.due(tag + "mercy(" + n + ", " + q + ")", x.mercy(n, q), model.mercy(n, q)); break;
            default: check.due(tag + "changes(" + n + ", " + who + ")", x.changes(n, who), model.changes(n, who));
        }
    }

    private static void witness(String tag) {
        int b = someBoat(), n = some(0, 30), j = someJunction(), i = random.nextInt(8) == 0 ? some(0, 999) : some(-1, 20);
        switch (random.nextInt(7)) {
            case 0: {
                // Where it would really be, so that not all pulls are ruled out at once.
                int at = random.nextInt(3) == 0 ? j : model.where(b, Math.max(n, 0), 0);
                check.due(tag + "see(" + b + ", " + n + ", " + at + ")", x.see(b, n, at), model.see(b, n, at));
                break;
            }
            case 1: case 2: check.due(tag + "left(" + b + ", " + i + ")", x.left(b, i), model.left(b, i)); break;
            case 3: check.due(tag + "look(" + b + ")", x.look(b), model.look(b)); break;
            case 4: check.due(tag + "write(" + b + ", " + j + ")", x.write(b, j), model.write(b, j)); break;
            case 5: {
                int at = model.boat(b, 0);
                check.due(tag + "write(" + b + ", " + at + ")", x.write(b, at), model.write(b, at));
                break;
            }
            default: if (random.nextInt(4) == 0) check.due(tag + "tear()", x.tear(), model.tear());
        }
    }

    private static void anew(String tag) {
        int i = some(0, 1), v = random.nextInt();
        switch (random.nextInt(8)) {
            case 0: case 1: check.due(tag + "keep(" + i + ")", x.keep(i), model.keep(i)); break;
            case 2: case 3: case 4: check.due(tag + "goBack(" + i + ")", x.goBack(i), model.goBack(i)); break;
            case 5: case 6: check.due(tag + "seed(" + v + ")", x.seed(v), model.seed(v)); break;
            default: if (random.nextInt(5) == 0) pour(tag, spoilt(goodText()));
        }
    }
}
