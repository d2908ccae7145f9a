import java.util.ArrayList;
import java.util.List;
import java.util.Random;

/** Runs of random calls, the same ones each time; every answer is held against the plain model's. */
public final class RandomRunsTest {
    private static final int RUNS = 3000, CALLS = 512;
    private final Random random;
    private final TailorTape x = new TailorTape();
    private final PlainModel y = new PlainModel();
    private final List<String> calls = new ArrayList<>();
    private boolean isWrong;

    private RandomRunsTest(long seed) {
        random = new Random(seed);
    }

    public static void main(String[] args) {
        int wrong = 0;
        for (int run = 0; run < RUNS && wrong < 5; run++) {
            RandomRunsTest test = new RandomRunsTest(run);
            if (!test.isAsDue()) {
                wrong++;
                System.out.println("run " + run + ", " + test.calls.size() + " calls, the last of them:");
                test.calls.subList(Math.max(0, test.calls.size() - 30), test.calls.size()).forEach(System.out::println);
            }
        }
        System.out.println(wrong == 0 ? "RandomRunsTest: all answers are as due" : wrong + " runs are not as due");
        if (wrong != 0) {
            System.exit(1);
        }
    }

    private boolean isAsDue() {
        if (random.nextInt(4) > 0) {
            furnish();
        }
        while (calls.size() < CALLS && !isWrong) {
            step();
        }
        return !isWrong;
    }

    private void check(String call, int got, int want) {
        calls.add("  " + call + " answered " + got + ", due is " + want);
        // what a call behind the 512th answers is free
        isWrong |= got != want && calls.size() <= CALLS;
    }

    /** Mostly a number that is as told, at times one just outside, rarely one far away. */
    private int about(int least, int most) {
        int dice = random.nextInt(60);
        if (dice == 0) {
            return least - 1;
        }
        if (dice == 1) {
            return most + 1;
        }
        if (dice == 2) {
            return random.nextInt();
        }
        if (dice == 3) {
            return random.nextBoolean() ? Integer.MIN_VALUE : Integer.MAX_VALUE;
        }
        return least + random.nextInt(most - least + 1);
    }

    private int who() {
        return about(0, Math.max(0, y.count(0) - 1));
    }

    private int which() {
        return about(0, Math.max(0, y.count(1) - 1));
    }

    private int what() {
        return about(0, 1);
    }

    private int days() {
        return random.nextBoolean() ? about(0, 20) : about(0, 99);
    }

    /** Lengths lie close together, so that suits fit at times. */
    private int length() {
        return random.nextInt(8) == 0 ? about(10, 99) : 40 + random.nextInt(6);
    }

    private void furnish() {
        int people = 1 + random.nextInt(5);
        for (int k = 0; k < people; k++) {
            int kind = random.nextInt(5);
            int v = length();
            check("person(" + kind + ", " + v + ")", x.person(kind, v), y.person(kind, v));
        }
        int suits = random.nextInt(5);
        for (int k = 0; k < suits; k++) {
            int v = length();
            check("suit(" + v + ")", x.suit(v), y.suit(v));
        }
        check("rule", x.rule(1, 3), y.rule(1, 3));
    }

    private void step() {
        int dice = random.nextInt(100);
        if (dice < 12) {
            tell();
        } else if (dice < 40) {
            happen();
        } else if (dice < 70) {
            foretell();
        } else if (dice < 76) {
            look();
        } else if (dice < 98) {
            sheets();
        } else if (random.nextInt(4) == 0) {
            write();
        }
    }

    private void tell() {
        int p = who();
        int m = about(0, 3);
        int v = length();
        int s = which();
        switch (random.nextInt(12)) {
            case 0 -> check("person(" + m + ", " + v + ")", x.person(m, v), y.person(m, v));
            case 1 -> check("suit(" + v + ")", x.suit(v), y.suit(v));
            case 2, 3, 4 -> check("own(" + p + ", " + m + ", " + v + ")", x.own(p, m, v), y.own(p, m, v));
            case 5, 6, 7 -> check("cut(" + s + ", " + m + ", " + v + ")", x.cut(s, m, v), y.cut(s, m, v));
            case 8 -> {
                int fade = about(1, 30);
                check("rule(0, " + fade + ")", x.rule(0, fade), y.rule(0, fade));
            }
            case 9 -> {
                int rule = about(0, 1);
                int ease = about(0, 9);
                check("rule(" + rule + ", " + ease + ")", x.rule(rule, ease), y.rule(rule, ease));
            }
            default -> {
                int draw = random.nextInt();
                check("seed(" + draw + ")", x.seed(draw), y.seed(draw));
            }
        }
    }

    private void happen() {
        int n = random.nextInt(3) > 0 ? about(1, 6) : about(1, 99);
        int d = about(0, Math.max(0, y.count(2) - 1));
        int p = who();
        int sort = about(0, 5);
        int weight = about(1, 9);
        switch (random.nextInt(24)) {
            case 0, 1, 2, 3, 4, 5, 6, 7, 8, 9 ->
                check("does(" + p + ", " + sort + ", " + weight + ")", x.does(p, sort, weight), y.does(p, sort, weight));
            case 10, 11, 12 -> check("mend(" + d + ")", x.mend(d), y.mend(d));
            case 13, 14 -> check("days(" + n + ")", x.days(n), y.days(n));
            case 15, 16 -> check("drift(" + n + ")", x.drift(n), y.drift(n));
            case 17, 18, 19, 20, 21 -> check("undo()", x.undo(), y.undo());
            case 22 -> check("image()", x.image(), y.image());
            default -> check("restore()", x.restore(), y.restore());
        }
    }

    private void foretell() {
        int p = who();
        int s = which();
        int m = about(0, 3);
        int n = days();
        int w = what();
        switch (random.nextInt(9)) {
            case 0 -> check("ahead(" + p + ", " + m + ", " + n + ")", x.ahead(p, m, n), y.ahead(p, m, n));
            case 1 -> check("showsAhead(" + p + ", " + s + ", " + n + ")", x.showsAhead(p, s, n), y.showsAhead(p, s, n));
            case 2 -> check("again(" + p + ", " + s + ")", x.again(p, s), y.again(p, s));
            case 3, 4 -> {
                String call = "wedding(" + p + ", " + s + ", " + n + ", " + w + ")";
                check(call, x.wedding(p, s, n, w), y.wedding(p, s, n, w));
            }
            case 5 -> {
                int days = about(0, 40);
                String call = "bestCut(" + p + ", " + m + ", " + days + ", " + w + ")";
                check(call, x.bestCut(p, m, days, w), y.bestCut(p, m, days, w));
            }
            case 6 -> {
                int one = random.nextInt(3) == 0 ? -4 : p;
                check("wear(" + one + ")", x.wear(one), y.wear(one));
            }
            case 7 -> check("luck(" + p + ", " + s + ", " + w + ")", x.luck(p, s, w), y.luck(p, s, w));
            default -> {
                int by = random.nextBoolean() ? about(1, 10) : about(1, 99);
                check("warrant(" + by + ")", x.warrant(by), y.warrant(by));
            }
        }
    }

    private void look() {
        int p = who();
        int s = which();
        int w = what();
        int d = about(0, 9);
        int k = about(0, 9);
        switch (random.nextInt(4)) {
            case 0 -> check("of(" + p + ", " + k + ")", x.of(p, k), y.of(p, k));
            case 1 -> check("deed(" + d + ", " + k + ")", x.deed(d, k), y.deed(d, k));
            case 2 -> check("tries(" + p + ", " + s + ", " + w + ")", x.tries(p, s, w), y.tries(p, s, w));
            default -> check("count(" + k + ")", x.count(k), y.count(k));
        }
    }

    private void sheets() {
        int a = random.nextInt(3) > 0 ? 0 : about(0, 3);
        int b = random.nextInt(3) > 0 ? 0 : about(0, 3);
        int lane = random.nextInt(4) > 0 ? 2 : about(0, 3);
        int i = random.nextInt(3) > 0 ? 0 : about(0, 24);
        int j = random.nextInt(3) > 0 ? 0 : about(0, 24);
        int n = random.nextInt(3) > 0 ? about(0, 6) : about(0, 24);
        switch (random.nextInt(20)) {
            case 0, 1 -> {
                int size = random.nextBoolean() ? about(0, 24) : 8 + random.nextInt(17);
                check("sheet(" + a + ", " + lane + ", " + size + ")", x.sheet(a, lane, size), y.sheet(a, lane, size));
            }
            case 2 -> check("drop(" + b + ")", x.drop(b), y.drop(b));
            case 3, 4 -> {
                String call = "copy(" + a + ", " + i + ", " + b + ", " + j + ", " + n + ")";
                check(call, x.copy(a, i, b, j, n), y.copy(a, i, b, j, n));
            }
            case 5, 6, 7 -> {
                int p = who();
                int m = about(0, 3);
                String call = "film(" + p + ", " + m + ", " + n + ", " + a + ", " + lane + ", " + i + ")";
                check(call, x.film(p, m, n, a, lane, i), y.film(p, m, n, a, lane, i));
            }
            case 8, 9, 10 -> guess(a, lane, i);
            default -> explain(a, lane, random.nextInt(3) == 0 ? i : 0);
        }
    }

    /** Puts a row on a sheet that may well be the work of some deeds. */
    private void guess(int sheet, int lane, int i) {
        int weight = random.nextInt(6);
        for (int k = 0; k < 4; k++) {
            long v = (long) weight * random.nextInt(3);
            v += random.nextInt(10) == 0 ? 1L << 8 * (1 + random.nextInt(5)) : 0;
            String call = "item(" + sheet + ", " + lane + ", " + (i + k) + ", " + v + ")";
            check(call, x.item(sheet, lane, i + k, v), y.item(sheet, lane, i + k, v));
        }
        explain(sheet, lane, i);
    }

    private void explain(int sheet, int lane, int i) {
        int p = who();
        int w = what();
        String call = "done(" + p + ", " + sheet + ", " + lane + ", " + i + ", " + w + ")";
        check(call, x.done(p, sheet, lane, i, w), y.done(p, sheet, lane, i, w));
    }

    private void write() {
        StringBuilder text = new StringBuilder(wardrobe());
        if (random.nextInt(3) > 0) {
            int errors = 1 + random.nextInt(2);
            for (int k = 0; k < errors; k++) {
                spoil(text);
            }
        }
        for (int k = 0; k < text.length(); k++) {
            int letter = random.nextInt(500) == 0 ? about(32, 126) : text.charAt(k);
            check("type(" + letter + ")", x.type(letter), y.type(letter));
        }
        check("wardrobe() of '" + text + "'", x.wardrobe(), y.wardrobe());
        for (int k = 0; k < 9; k++) {
            check("count(" + k + ")", x.count(k), y.count(k));
        }
    }

    private String wardrobe() {
        StringBuilder text = new StringBuilder();
        text.append(1 + random.nextInt(30)).append(';');
        int people = 1 + random.nextInt(random.nextInt(10) == 0 ? 7 : 3);
        for (int k = 0; k < people; k++) {
            text.append(k == 0 ? "" : ",").append("ptswh".charAt(random.nextInt(5)));
            four(text, 10, 99);
        }
        int suits = random.nextInt(random.nextInt(10) == 0 ? 7 : 4);
        for (int k = 0; k < suits; k++) {
            text.append(k == 0 ? ';' : ',');
            four(text, 0, 199);
        }
        return text.toString();
    }

    private void four(StringBuilder text, int least, int most) {
        boolean close = random.nextBoolean();
        for (int m = 0; m < 4; m++) {
            int v = close ? 40 + random.nextInt(5) : least + random.nextInt(most - least + 1);
            text.append(m == 0 ? "" : ".").append(random.nextInt(20) == 0 ? " " : "");
            text.append(random.nextInt(20) == 0 ? "0" : "").append(v);
        }
    }

    private void spoil(StringBuilder text) {
        int at = random.nextInt(text.length() + 1);
        String letters = " 0123456789.,;ptswhx-~";
        char letter = letters.charAt(random.nextInt(letters.length()));
        switch (random.nextInt(4)) {
            case 0 -> text.setLength(at);
            case 1 -> text.insert(at, letter);
            case 2 -> text.insert(at, "   ");
            default -> {
                if (at < text.length()) {
                    text.setCharAt(at, letter);
                }
            }
        }
        if (text.length() == 0) {
            text.append(letter);
        }
    }
}
