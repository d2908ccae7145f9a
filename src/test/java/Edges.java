import java.lang.reflect.InvocationTargetException;
import java.lang.reflect.Method;
import java.util.ArrayList;
import java.util.Arrays;
import java.util.Comparator;
import java.util.List;
import java.util.function.Supplier;
import java.util.regex.Matcher;
import java.util.regex.Pattern;

/** What the tests of single sentences share: shops to begin with, calls by name, and how a run is judged. */
abstract class Edges {
    static final int BAD = -1, NOT = -2, FULL = -3, NONE = -4, NULL = -11, CAST = -12, INDEX = -13, SIZE = -14;
    static final int LEAST = Integer.MIN_VALUE, MOST = Integer.MAX_VALUE;
    static final int LIE = 0, THEFT = 1, BLOW = 2, GREED = 3, SLOTH = 4, TREASON = 5;
    static final int PLAIN = 0, TALL = 1, SEATED = 2, WIDOW = 3, SAINT = 4;
    private static final int PEOPLE = 5, SUITS = 4, DEEDS = 10, SCRATCH = 3;
    private static final Due DUE = new Due();
    private static String now = "";

    // ---- how a run is judged

    /** Runs every test that bears words of the document; all words under the headings must be borne by one. */
    static void run(Class<?> tests, String... headings) throws Exception {
        Sentences document = new Sentences();
        Method[] all = tests.getDeclaredMethods();
        Arrays.sort(all, Comparator.comparing(Method::getName));
        for (Method test : all) {
            Says says = test.getAnnotation(Says.class);
            if (says != null) {
                now = test.getName();
                for (String words : says.value()) {
                    due("the document says: " + words, document.holds(heading(now), words) ? 1 : 0, 1);
                }
                runOne(test);
            }
        }
        now = tests.getSimpleName();
        for (String heading : headings) {
            String rest = document.unheld(heading);
            due("words of " + heading + " without a test: " + rest, rest.length(), 0);
        }
        DUE.end(tests.getSimpleName());
    }

    private static void runOne(Method test) throws IllegalAccessException {
        try {
            test.setAccessible(true);
            test.invoke(null);
        } catch (InvocationTargetException thrown) {
            thrown.getCause().printStackTrace(System.out);
            due("nothing is thrown", 1, 0);
        }
    }

    /** A test of a promise is named promise and its number; all others are of the terms. */
    private static String heading(String test) {
        Matcher promise = Pattern.compile("promise(\\d+)\\D.*").matcher(test);
        if (promise.matches()) {
            return "Promise " + promise.group(1);
        }
        return test.startsWith("whatItIs") ? "What it is" : "Terms";
    }

    static void due(String call, long got, long want) {
        DUE.is(now + ": " + call, got, want);
    }

    // ---- shops to begin with

    static TailorTape empty() {
        return new TailorTape();
    }

    /** One person of a kind, all of whose own measures are 50. */
    static TailorTape one(int kind) {
        TailorTape x = new TailorTape();
        x.person(kind, 50);
        return x;
    }

    /** One person of a kind and a suit of 50 that must fit without ease. */
    static TailorTape strict(int kind) {
        TailorTape x = one(kind);
        x.suit(50);
        x.rule(1, 0);
        return x;
    }

    /** One whose sleeve is 51 today and 50 tomorrow, and a suit that fits without ease tomorrow alone. */
    static TailorTape fadingTomorrow() {
        TailorTape x = strict(PLAIN);
        x.rule(0, 1);
        x.does(0, THEFT, 1);
        return x;
    }

    /** Three people, two suits, four deeds, eight steps known; an image of earlier, half a tape, two sheets. */
    static TailorTape busy() {
        TailorTape x = new TailorTape();
        x.person(PLAIN, 50);
        x.person(TALL, 51);
        x.person(SAINT, 52);
        x.suit(50);
        x.suit(60);
        x.cut(0, 1, 51);
        x.rule(0, 4);
        x.rule(1, 2);
        x.seed(1234);
        x.does(0, THEFT, 9);
        x.does(1, TREASON, 5);
        x.image();
        x.mend(1);
        x.days(4);
        x.seed(4321);
        x.does(0, LIE, 4);
        x.does(2, SLOTH, 8);
        x.sheet(0, 1, 5);
        x.sheet(1, 2, 4);
        for (int k = 0; k < 9; k++) {
            due("item", k < 5 ? x.item(0, 1, k, k + 2) : x.item(1, 2, k - 5, k + 2), 1);
        }
        types(x, "7;p11.12.13.1");
        return x;
    }

    /** As many people, suits and deeds as there may be, on the last day. */
    static TailorTape full() {
        TailorTape x = new TailorTape();
        for (int p = 0; p < PEOPLE; p++) {
            x.person(p, 50 + p);
        }
        for (int s = 0; s < SUITS; s++) {
            x.suit(50 + s);
        }
        for (int k = 0; k < 101; k++) {
            x.days(99);
        }
        for (int d = 0; d < DEEDS; d++) {
            x.does(d % PEOPLE, d % 6, 9 - d % 9);
        }
        x.mend(9);
        x.image();
        x.mend(0);
        x.seed(77);
        return x;
    }

    /** As busy, with a tape that takes no letter more. */
    static TailorTape fullTape() {
        TailorTape x = busy();
        for (int k = 14; k <= 130; k++) {
            due("letter " + k, x.type(' '), k);
        }
        return x;
    }

    static void types(TailorTape x, String text) {
        for (int k = 0; k < text.length(); k++) {
            due("letter " + k + " of " + text, x.type(text.charAt(k)), k + 1);
        }
    }

    static int wardrobe(TailorTape x, String text) {
        types(x, text);
        return x.wardrobe();
    }

    static void measures(String what, TailorTape x, int person, int... want) {
        for (int m = 0; m < 4; m++) {
            due(what + ": of(" + person + ", " + m + ")", x.of(person, m), want[m]);
        }
    }

    static void counts(String what, TailorTape x, int... want) {
        for (int k = 0; k < want.length; k++) {
            due(what + ": count(" + k + ")", x.count(k), want[k]);
        }
    }

    static void row(TailorTape x, int sheet, int lane, long... items) {
        for (int k = 0; k < items.length; k++) {
            due("item " + k + " of sheet " + sheet, x.item(sheet, lane, k, items[k]), 1);
        }
    }

    // ---- calls by name

    static int call(TailorTape x, String name, long... args) {
        for (Method m : TailorTape.class.getMethods()) {
            if (m.getName().equals(name) && m.getDeclaringClass() == TailorTape.class) {
                return called(x, m, args);
            }
        }
        throw new IllegalArgumentException("no call " + name);
    }

    private static int called(TailorTape x, Method m, long[] args) {
        Object[] as = new Object[args.length];
        for (int k = 0; k < as.length; k++) {
            if (m.getParameterTypes()[k] == int.class) {
                as[k] = Math.toIntExact(args[k]);
            } else {
                as[k] = args[k];
            }
        }
        try {
            return (Integer) m.invoke(x, as);
        } catch (ReflectiveOperationException thrown) {
            throw new IllegalStateException(told(m.getName(), args) + " threw", thrown.getCause());
        }
    }

    static String told(String name, long... args) {
        String list = Arrays.toString(args);
        return name + "(" + list.substring(1, list.length() - 1) + ")";
    }

    // ---- what is refused changes nothing

    /** The answer is as wanted, and the shop is like one that was not asked. */
    static void refuses(Supplier<TailorTape> shop, int want, String name, long... args) {
        TailorTape asked = shop.get();
        due(told(name, args), call(asked, name, args), want);
        alike(told(name, args), asked, shop.get());
    }

    /** Whatever it answers, nothing is changed by it. */
    static void onlyLooks(Supplier<TailorTape> shop, String name, long... args) {
        TailorTape asked = shop.get();
        int answer = call(asked, name, args);
        due(told(name, args) + " again", call(asked, name, args), answer);
        alike(told(name, args), asked, shop.get());
    }

    static void alike(String what, TailorTape x, TailorTape y) {
        due(what + " changed nothing", allOf(x).equals(allOf(y)) ? 1 : 0, 1);
    }

    /**
     * By least and greatest number, in turn: all of these are taken together; each number just outside, or far, is
     * BAD and changes nothing, whatever the others are. LEAST or MOST stands for: no bound that is BAD.
     */
    static void bounds(String name, int... bounds) {
        int n = bounds.length / 2;
        for (int corner = 0; corner < 1 << n; corner++) {
            long[] args = corner(bounds, corner);
            int answer = call(busy(), name, args);
            due(told(name, args) + " answered " + answer + ": is that BAD", answer == BAD ? 1 : 0, 0);
        }
        for (int k = 0; k < n; k++) {
            for (long out : new long[] {bounds[2 * k] - 1L, bounds[2 * k + 1] + 1L, LEAST, MOST}) {
                boolean isOut = out < bounds[2 * k] || out > bounds[2 * k + 1];
                for (int corner : new int[] {0, (1 << n) - 1}) {
                    long[] args = corner(bounds, corner);
                    args[k] = out;
                    if (isOut && out >= LEAST && out <= MOST) {
                        refuses(Edges::busy, BAD, name, args);
                    }
                }
            }
        }
    }

    private static long[] corner(int[] bounds, int corner) {
        long[] args = new long[bounds.length / 2];
        for (int k = 0; k < args.length; k++) {
            args[k] = bounds[2 * k + (corner >> k & 1)];
        }
        return args;
    }

    /** All that a shop can be asked for; the shop is spent behind it. */
    static List<Integer> allOf(TailorTape x) {
        List<Integer> all = new ArrayList<>();
        int tall = 0;
        for (int k = 0; k < 9; k++) {
            all.add(x.count(k));
        }
        for (int p = 0; p < PEOPLE; p++) {
            for (int k = 0; k < 10; k++) {
                all.add(x.of(p, k));
            }
            tall = x.of(p, 8) == TALL ? p : tall;
        }
        for (int d = 0; d < DEEDS; d++) {
            for (int k = 0; k < 6; k++) {
                all.add(x.deed(d, k));
            }
        }
        for (int k = 0; k < 4 * SUITS; k++) {
            all.add(x.cut(k / 4, k % 4, 7));
        }
        all.add(x.seed(5));
        for (int s = 0; s < 4; s++) {
            addSheet(all, x, s, tall);
        }
        addPast(all, x);
        all.add(x.type('4'));
        all.add(x.wardrobe());
        for (int k = 4; k < 9; k++) {
            all.add(x.of(0, k));
        }
        all.add(x.count(4));
        return all;
    }

    /** The items are seen by what one who is tall would have done; those of the last sheet are not looked at. */
    private static void addSheet(List<Integer> all, TailorTape x, int sheet, int tall) {
        int lane = 0;
        for (int k = 0; k < 4; k++) {
            int answer = x.done(tall, sheet, k, 0, 1);
            all.add(answer);
            lane = answer == CAST ? lane : k;
        }
        if (sheet < SCRATCH && x.copy(sheet, 0, sheet, 0, 1) == 1) {
            all.add(x.drop(SCRATCH));
            x.sheet(SCRATCH, lane, 4);
            for (int k = 0; k < 24 && x.copy(sheet, k, SCRATCH, 0, 1) == 1; k++) {
                all.add(x.done(tall, SCRATCH, lane, 0, 1));
            }
            x.drop(SCRATCH);
        }
        all.add(x.drop(sheet));
    }

    private static void addPast(List<Integer> all, TailorTape x) {
        for (int k = 0; k < 9; k++) {
            all.add(x.undo());
            all.add(x.count(2));
            all.add(x.count(3));
            all.add(x.count(6));
            all.add(x.seed(6));
        }
        all.add(x.restore());
        for (int k = 0; k < 9; k++) {
            all.add(x.count(k));
        }
        for (int p = 0; p < PEOPLE; p++) {
            all.add(x.of(p, 0));
            all.add(x.of(p, 9));
        }
        all.add(x.seed(7));
        all.add(x.undo());
    }
}
