/** Each sentence of promises 1 to 34 that names an edge: the numbers at it and outside it, what is empty, what is full. */
public final class EdgesTest extends Edges {
    private EdgesTest() {
    }

    public static void main(String[] args) throws Exception {
        String[] promises = new String[34];
        for (int k = 0; k < promises.length; k++) {
            promises[k] = "Promise " + (k + 1);
        }
        run(EdgesTest.class, promises);
    }

    // ---- 1 people, suits, deeds

    @Says("A shop, nobody.")
    static void promise1Nobody() {
        counts("at first", new TailorTape(), 0, 0, 0, 0, 5, 1, 0, 0, 0);
        String[] ofPeople = {"own 0 0 50", "of 0 0", "tries 0 0 0", "does 0 0 1", "ahead 0 0 0", "showsAhead 0 0 0",
            "again 0 0", "wedding 0 0 0 0", "bestCut 0 0 0 0", "wear 0", "luck 0 0 0", "done 0 0 0 0 0", "film 0 0 1 0 0 0"};
        for (String one : ofPeople) {
            asks(BAD, one);
        }
        asks(BAD, "cut 0 0 50");
        asks(BAD, "deed 0 0");
        asks(BAD, "mend 0");
        asks(NONE, "undo");
        asks(NONE, "restore");
        asks(NULL, "drop 0");
        asks(NULL, "item 0 0 0 0");
        asks(NULL, "copy 0 0 0 0 0");
        due("wear", new TailorTape().wear(NONE), 0);
        due("warrant", new TailorTape().warrant(1), 0);
        due("the tape", new TailorTape().wardrobe(), -20);
        due("THE DRAW", new TailorTape().seed(0), 1);
        TailorTape other = full();
        alike("one object knows nothing of another", new TailorTape(), new TailorTape());
        due("nor that of it", other.count(0), 5);
    }

    private static void asks(int want, String words) {
        String[] parts = words.split(" ");
        long[] args = new long[parts.length - 1];
        for (int k = 0; k < args.length; k++) {
            args[k] = Long.parseLong(parts[k + 1]);
        }
        refuses(Edges::empty, want, parts[0], args);
    }

    @Says("A PERSON whose OWN MEASURES are all v: its number.")
    static void promise2Numbers() {
        TailorTape x = new TailorTape();
        due("the least", x.person(0, 10), 0);
        due("the greatest", x.person(4, 99), 1);
        measures("the least", x, 0, 10, 10, 10, 10);
        measures("the greatest", x, 1, 99, 99, 99, 99);
    }

    @Says("BAD;")
    static void promise2Bad() {
        bounds("person", 0, 4, 10, 99);
    }

    @Says("FULL: 5.")
    static void promise2Full() {
        TailorTape x = new TailorTape();
        for (int p = 0; p < 5; p++) {
            due("room", x.person(PLAIN, 50), p);
        }
        due("no room", x.person(PLAIN, 50), FULL);
        refuses(Edges::full, FULL, "person", 4, 99);
    }

    @Says("An OWN MEASURE becomes v: what it was.")
    static void promise3Becomes() {
        TailorTape x = busy();
        due("to the least", x.own(2, 3, 10), 52);
        due("to the greatest", x.own(2, 3, 99), 10);
        due("to the same", x.own(2, 3, 99), 99);
        due("what may be undone stays", x.count(8), 8);
        due("others stay", x.of(2, 6), 52);
    }

    @Says("BAD.")
    static void promise3Bad() {
        bounds("own", 0, 2, 0, 3, 10, 99);
    }

    @Says("A SUIT whose CUT is v everywhere: its number.")
    static void promise4Numbers() {
        TailorTape x = new TailorTape();
        due("the least", x.suit(0), 0);
        due("the greatest", x.suit(199), 1);
        for (int m = 0; m < 4; m++) {
            due("the least everywhere", x.cut(0, m, 1), 0);
            due("the greatest everywhere", x.cut(1, m, 1), 199);
        }
    }

    @Says("BAD;")
    static void promise4Bad() {
        bounds("suit", 0, 199);
    }

    @Says("FULL: 4.")
    static void promise4Full() {
        TailorTape x = new TailorTape();
        for (int s = 0; s < 4; s++) {
            due("room", x.suit(50), s);
        }
        due("no room", x.suit(50), FULL);
        refuses(Edges::full, FULL, "suit", 199);
    }

    @Says("The CUT of a SUIT for a MEASURE becomes v: what it was.")
    static void promise5Becomes() {
        TailorTape x = busy();
        due("to the least", x.cut(1, 3, 0), 60);
        due("to the greatest", x.cut(1, 3, 199), 0);
        due("to the same", x.cut(1, 3, 199), 199);
        due("what may be undone stays", x.count(8), 8);
        due("others stay", x.cut(1, 2, 60), 60);
        due("of the other suit too", x.cut(0, 3, 50), 50);
    }

    @Says("BAD.")
    static void promise5Bad() {
        bounds("cut", 0, 1, 0, 3, 0, 199);
    }

    @Says("Of a PERSON: 0 to 3 MEASURES now, 4 to 7 OWN ones, 8 KIND, 9 DEEDS of it (a set).")
    static void promise6From0To9() {
        TailorTape x = busy();
        int[] want = {50 + 8, 50, 50 + 4, 50, 50, 50, 50, 50, PLAIN, 5};
        for (int k = 0; k < 10; k++) {
            due("of(0, " + k + ")", x.of(0, k), want[k]);
        }
        // the tall one's treason of 5 is four days old by a fade of 4, and mended: half of 4, and 1 more
        int[] tall = {54, 54, 54, 54, 51, 51, 51, 51, TALL, 2};
        for (int k = 0; k < 10; k++) {
            due("of(1, " + k + ")", x.of(1, k), tall[k]);
        }
        due("nobody's deeds", one(PLAIN).of(0, 9), 0);
        due("now, not tomorrow", fadingTomorrow().of(0, 0), 51);
    }

    @Says("BAD.")
    static void promise6Bad() {
        bounds("of", 0, 2, 0, 9);
        onlyLooks(Edges::busy, "of", 2, 9);
    }

    @Says("Of a DEED: 0 who did it, 1 SORT, 2 WEIGHT, 3 DAY, 4 whether MENDED (1, 0), 5 what is LEFT.")
    static void promise7From0To5() {
        TailorTape x = busy();
        int[][] want = {{0, THEFT, 9, 0, 0, 8}, {1, TREASON, 5, 0, 1, 2}, {0, LIE, 4, 4, 0, 4}, {2, SLOTH, 8, 4, 0, 8}};
        for (int d = 0; d < 4; d++) {
            for (int k = 0; k < 6; k++) {
                due("deed(" + d + ", " + k + ")", x.deed(d, k), want[d][k]);
            }
        }
        due("on the last day", full().deed(9, 3), 9999);
    }

    @Says("BAD.")
    static void promise7Bad() {
        bounds("deed", 0, 3, 0, 5);
        due("one that is undone", undone().deed(3, 0), BAD);
    }

    /** As busy, without its fourth deed. */
    private static TailorTape undone() {
        TailorTape x = busy();
        x.undo();
        return x;
    }

    @Says("SHOWS of a SUIT on a PERSON (what 0), whether it FITS (1; 1, 0).")
    static void promise8ShowsAndFits() {
        TailorTape x = busy();
        due("shows", x.tries(0, 0, 0), 8 + 1 + 4 + 0);
        due("does not fit", x.tries(0, 0, 1), 0);
        due("of another suit", x.tries(0, 1, 0), 2 + 10 + 6 + 10);
        x.rule(1, 8);
        due("fits by all its ease", x.tries(0, 0, 1), 1);
        x.rule(1, 7);
        due("no more", x.tries(0, 0, 1), 0);
        due("shows today", fadingTomorrow().tries(0, 0, 0), 1);
        due("fits tomorrow alone", fadingTomorrow().tries(0, 0, 1), 0);
    }

    @Says("BAD.")
    static void promise8Bad() {
        bounds("tries", 0, 2, 0, 1, 0, 1);
    }

    @Says("0 FADE, 1 EASE becomes v: what it was.")
    static void promise9Becomes() {
        TailorTape x = busy();
        due("fade to the least", x.rule(0, 1), 4);
        due("fade to the greatest", x.rule(0, 30), 1);
        due("ease to the least", x.rule(1, 0), 2);
        due("ease to the greatest", x.rule(1, 9), 0);
        due("fade", x.count(4), 30);
        due("ease", x.count(5), 9);
        due("what may be undone stays", x.count(8), 8);
        x.undo();
        due("and is not undone", x.count(4), 30);
    }

    @Says("BAD.")
    static void promise9Bad() {
        for (int what : new int[] {-1, 2, LEAST, MOST}) {
            refuses(Edges::busy, BAD, "rule", what, 1);
            refuses(Edges::busy, BAD, "rule", what, 9);
        }
        for (int v : new int[] {0, 31, -1, LEAST, MOST}) {
            refuses(Edges::busy, BAD, "rule", 0, v);
        }
        for (int v : new int[] {-1, 10, 30, LEAST, MOST}) {
            refuses(Edges::busy, BAD, "rule", 1, v);
        }
    }

    @Says("One letter more behind THE TAPE: how many it has.")
    static void promise10HowMany() {
        TailorTape x = new TailorTape();
        due("the least letter", x.type(32), 1);
        due("the greatest letter", x.type(126), 2);
        for (int k = 3; k <= 130; k++) {
            due("letter " + k, x.type('5'), k);
        }
        due("the letters are as they came", x.wardrobe(), -21);
        due("empty behind a fault", x.type(32), 1);
        due("and behind that", x.wardrobe(), -21);
        due("and behind a wardrobe", wardrobe(x, "5;p10.10.10.10"), 1);
        due("empty", x.type(32), 1);
    }

    @Says("BAD: not 32 .. 126;")
    static void promise10Bad() {
        bounds("type", 32, 126);
        refuses(Edges::busy, BAD, "type", 0);
        refuses(Edges::busy, BAD, "type", 10);
        refuses(Edges::busy, BAD, "type", 256 + 'p');
    }

    @Says("FULL: 130.")
    static void promise10Full() {
        TailorTape x = new TailorTape();
        String text = "7;p10.10.10.10" + " ".repeat(115) + ";";
        types(x, text);
        due("no room", x.type('1'), FULL);
        due("nor for a blank", x.type(' '), FULL);
        due("it stayed at 130", x.wardrobe(), -150);
        due("there is room then", x.type('1'), 1);
        refuses(Edges::fullTape, FULL, "type", 126);
    }

    @Says("THE TAPE, which is empty then, is a WARDROBE: how many PEOPLE.")
    static void promise11HowMany() {
        TailorTape x = new TailorTape();
        due("the fewest", wardrobe(x, "1;p10.10.10.10"), 1);
        due("empty then", x.type('1'), 1);
        due("of one letter", x.wardrobe(), -21);
        String five = "30;p99.99.99.99,t99.99.99.99,s99.99.99.99,w99.99.99.99,h99.99.99.99";
        due("the most", wardrobe(x, five), 5);
        due("no room for a sixth", x.person(PLAIN, 50), FULL);
        TailorTape y = new TailorTape();
        due("the most suits", wardrobe(y, "30;h99.99.99.99;199.199.199.199,0.0.0.0,199.199.199.199,0.0.0.0"), 1);
        due("no room for a fifth", y.suit(50), FULL);
        String long130 = "30;p99.99.99.99,t99.99.99.99,s99.99.99.99,w99.99.99.99;199.199.199.199,199.199.199.199,"
                + "199.199.199.199,199.199.199.199";
        due("of all 130 letters", wardrobe(y, " ".repeat(130 - long130.length()) + long130), 4);
        due("the last number", y.cut(3, 3, 0), 199);
    }

    @Says("A FAULT (all else stays).")
    static void promise11Fault() {
        for (String text : new String[] {"", " ", "31;", "5;p10.10.10.9", "5;p10.10.10.10;1.1.1.200", "9;h99.99.99.99;"}) {
            TailorTape x = busy();
            x.wardrobe();
            TailorTape y = busy();
            y.wardrobe();
            due("is '" + text + "' a fault", wardrobe(x, text) <= -20 ? 1 : 0, 1);
            alike("'" + text + "'", x, y);
        }
        due("the empty tape", busyWithoutTape().wardrobe(), -20);
        counts("all else stays", busyWithoutTape(), 3, 2, 4, 4, 4, 2, 2, 22, 8);
    }

    private static TailorTape busyWithoutTape() {
        TailorTape x = busy();
        x.wardrobe();
        return x;
    }

    @Says({"0 PEOPLE, 1 SUITS, 2 DEEDS, 3 the DAY, 4 FADE, 5 EASE, 6 MENDED DEEDS (a set), 7 what is LEFT of all, 8 what "
            + "may be UNDONE."})
    static void promise12From0To8() {
        counts("empty", empty(), 0, 0, 0, 0, 5, 1, 0, 0, 0);
        counts("busy", busy(), 3, 2, 4, 4, 4, 2, 2, 8 + 2 + 4 + 8, 8);
        // nine to one, and nine again: the first and the last are mended
        counts("full", full(), 5, 4, 10, 9999, 5, 1, 513, 4 + 8 + 7 + 6 + 5 + 4 + 3 + 2 + 1 + 4, 8);
    }

    @Says("BAD.")
    static void promise12Bad() {
        bounds("count", 0, 8);
    }

    // ---- what is done

    @Says("A DEED is done today: its number.")
    static void promise13Today() {
        TailorTape x = one(PLAIN);
        due("on day 0", x.does(0, 0, 1), 0);
        for (int k = 0; k < 101; k++) {
            x.days(99);
        }
        due("on day 9999", x.does(0, 5, 9), 1);
        due("day 0", x.deed(0, 3), 0);
        due("day 9999", x.deed(1, 3), 9999);
        due("nothing is left of that", x.deed(0, 5), 0);
        due("all of this", x.deed(1, 5), 9);
        due("a step to undo", x.undo(), 7);
        due("in its place", x.does(0, 3, 2), 1);
        due("its sort", x.deed(1, 1), 3);
    }

    @Says("BAD;")
    static void promise13Bad() {
        bounds("does", 0, 2, 0, 5, 1, 9);
    }

    @Says("FULL: 10.")
    static void promise13Full() {
        TailorTape x = one(PLAIN);
        for (int d = 0; d < 10; d++) {
            due("room", x.does(0, 0, 1), d);
        }
        due("no room", x.does(0, 0, 1), FULL);
        x.undo();
        due("room again", x.does(0, 0, 1), 9);
        due("faded ones take room too", behind99(x).does(0, 0, 1), FULL);
        refuses(Edges::full, FULL, "does", 4, 5, 9);
    }

    private static TailorTape behind99(TailorTape x) {
        x.days(99);
        return x;
    }

    @Says("A DEED is MENDED: what is LEFT of it.")
    static void promise14Left() {
        TailorTape x = one(PLAIN);
        x.does(0, LIE, 1);
        x.does(0, LIE, 9);
        x.does(0, LIE, 9);
        due("half of 1", x.mend(0), 0);
        due("half of 9", x.mend(1), 4);
        due("a step to undo each", x.count(8), 5);
        x.days(45);
        due("half of nothing", x.mend(2), 0);
        due("all are", x.count(6), 7);
    }

    @Says("BAD;")
    static void promise14Bad() {
        bounds("mend", 0, 3);
        refuses(EdgesTest::undone, BAD, "mend", 3);
    }

    @Says("NOT: it is.")
    static void promise14Not() {
        refuses(Edges::busy, NOT, "mend", 1);
        refuses(Edges::full, NOT, "mend", 0);
        refuses(Edges::full, NOT, "mend", 9);
        TailorTape x = busy();
        x.mend(3);
        due("it is", x.mend(3), NOT);
        x.undo();
        due("it is not", x.mend(3), 4);
    }

    @Says("n DAYS (1 .. 99) go by (each may be UNDONE): what is LEFT of all.")
    static void promise15GoBy() {
        TailorTape x = one(PLAIN);
        due("nothing of nothing", x.days(1), 0);
        x.does(0, TREASON, 9);
        x.does(0, LIE, 1);
        due("1", x.days(1), 10);
        due("four more, a fade in all", x.days(4), 8);
        for (int k = 1; k <= 5; k++) {
            due("each may be undone", x.undo(), 8 - k);
            due("day", x.count(3), 6 - k);
        }
        due("all is left again", x.count(7), 10);
        due("99", x.days(99), 0);
        due("day", x.count(3), 100);
    }

    @Says("BAD;")
    static void promise15Bad() {
        bounds("days", 1, 99);
    }

    /** The day is that many short of the last one. */
    private static TailorTape shortOf(int days) {
        TailorTape x = one(PLAIN);
        for (int k = 0; k < 100; k++) {
            x.days(99);
        }
        x.days(99 - days);
        return x;
    }

    @Says("FULL: the DAY would be above 9999.")
    static void promise15Full() {
        due("the last day", dayBehind(shortOf(1), "days", 1), 9999);
        due("the last days", dayBehind(shortOf(98), "days", 98), 9999);
        refuses(() -> shortOf(1), FULL, "days", 2);
        refuses(() -> shortOf(98), FULL, "days", 99);
        refuses(Edges::full, FULL, "days", 1);
        refuses(Edges::full, FULL, "days", 99);
        refuses(Edges::full, BAD, "days", 100);
        TailorTape x = behindTheLast();
        x.undo();
        due("a day undone may go by again", dayBehind(x, "days", 1), 9999);
    }

    private static TailorTape behindTheLast() {
        TailorTape x = shortOf(1);
        x.days(1);
        return x;
    }

    private static int dayBehind(TailorTape x, String call, int n) {
        due(told(call, n) + " is FULL", call(x, call, n) == FULL ? 1 : 0, 0);
        return x.count(3);
    }

    @Says("A DRIFT of n DAYS (1 .. 99): how many DEEDS were done.")
    static void promise16HowMany() {
        TailorTape x = one(PLAIN);
        due("1, by a draw of 1103527590, which by 65536 is 16838", x.drift(1), 0);
        due("its draw", x.seed(2), 1103527590);
        // from 2: 59559187, 1495354192, 671064393; by 65536: 908, 22817, 10239, of which by 3 the last alone leaves 0
        due("three days", x.drift(3), 1);
        due("on the third", x.deed(0, 3), 3);
        due("its sort", x.deed(0, 1), 4);
        due("its weight", x.deed(0, 2), 2);
        due("99 days: as many as there is room for", x.drift(99), 9);
        due("ten", x.count(2), 10);
        due("none more", x.drift(99), 0);
        due("the days go by", x.count(3), 1 + 3 + 99 + 99);
        due("nobody", new TailorTape().drift(99), 0);
    }

    @Says("BAD;")
    static void promise16Bad() {
        bounds("drift", 1, 99);
    }

    @Says("FULL: likewise.")
    static void promise16Full() {
        due("the last day", dayBehind(shortOf(1), "drift", 1), 9999);
        due("the last days", dayBehind(shortOf(98), "drift", 98), 9999);
        refuses(() -> shortOf(1), FULL, "drift", 2);
        refuses(() -> shortOf(98), FULL, "drift", 99);
        refuses(Edges::full, FULL, "drift", 1);
        refuses(Edges::full, FULL, "drift", 99);
        refuses(Edges::full, BAD, "drift", 100);
    }

    @Says("UNDONE: how many more may be.")
    static void promise17HowMany() {
        TailorTape x = busy();
        for (int k = 7; k >= 0; k--) {
            due("how many more", x.undo(), k);
            due("as counted", x.count(8), k);
        }
        TailorTape y = one(PLAIN);
        y.days(1);
        due("the only one", y.undo(), 0);
        y.days(99);
        due("one of 99", y.undo(), 7);
        y.does(0, LIE, 1);
        due("as many again", y.count(8), 8);
    }

    @Says("NONE: none is known.")
    static void promise17None() {
        refuses(Edges::empty, NONE, "undo");
        refuses(() -> one(PLAIN), NONE, "undo");
        TailorTape x = one(PLAIN);
        x.days(9);
        for (int k = 0; k < 8; k++) {
            x.undo();
        }
        due("the ninth is lost", x.undo(), NONE);
        due("that day stays", x.count(3), 1);
        TailorTape y = one(PLAIN);
        y.own(0, 0, 60);
        y.rule(0, 9);
        y.seed(7);
        due("what is told is no step", y.undo(), NONE);
    }

    @Says("THE DRAW becomes v: what it was.")
    static void promise18Becomes() {
        TailorTape x = new TailorTape();
        due("1 at first", x.seed(0), 1);
        due("the least", x.seed(MOST), 0);
        due("the greatest", x.seed(MOST), MOST);
        due("to the same", x.seed(5), MOST);
        due("no step to undo", x.undo(), NONE);
    }

    @Says("BAD: below 0.")
    static void promise18Bad() {
        bounds("seed", 0, MOST);
    }

    // ---- 2 foretold

    @Says("A MEASURE of a PERSON behind n DAYS.")
    static void promise19Behind() {
        TailorTape x = one(WIDOW);
        x.rule(0, 11);
        x.does(0, THEFT, 9);
        due("0 days", x.ahead(0, 0, 0), 58);
        due("10 days", x.ahead(0, 0, 10), 58);
        due("11 days", x.ahead(0, 0, 11), 57);
        due("87 days", x.ahead(0, 0, 87), 51);
        due("88 days", x.ahead(0, 0, 88), 50);
        due("99 days", x.ahead(0, 0, 99), 50);
        due("another measure", x.ahead(0, 3, 0), 50);
    }

    @Says("BAD.")
    static void promise19Bad() {
        bounds("ahead", 0, 2, 0, 3, 0, 99);
    }

    @Says("SHOWS of a SUIT on a PERSON behind n DAYS.")
    static void promise20Behind() {
        TailorTape x = one(PLAIN);
        x.suit(53);
        x.rule(0, 11);
        x.does(0, TREASON, 9);
        due("0 days", x.showsAhead(0, 0, 0), 24);
        due("10 days", x.showsAhead(0, 0, 10), 24);
        due("11 days", x.showsAhead(0, 0, 11), 20);
        due("66 days", x.showsAhead(0, 0, 66), 0);
        due("98 days", x.showsAhead(0, 0, 98), 8);
        due("99 days", x.showsAhead(0, 0, 99), 12);
    }

    @Says("BAD.")
    static void promise20Bad() {
        bounds("showsAhead", 0, 2, 0, 1, 0, 99);
    }

    @Says("AGAIN; NONE.")
    static void promise21AgainOrNone() {
        TailorTape x = strict(PLAIN);
        due("now", x.again(0, 0), 0);
        x.rule(0, 1);
        x.does(0, THEFT, 1);
        due("tomorrow", x.again(0, 0), 1);
        x.cut(0, 0, 51);
        due("today, not tomorrow", x.again(0, 0), 0);
        x.days(1);
        due("no more", x.again(0, 0), NONE);
        onlyLooks(Edges::busy, "again", 0, 1);
        TailorTape last = full();
        due("the widow's greed of six, past the last day", last.again(3, 3), 20);
    }

    @Says("BAD.")
    static void promise21Bad() {
        bounds("again", 0, 2, 0, 1);
    }

    @Says("WEDDING: how many (what 0), which (1); NONE.")
    static void promise22HowManyWhich() {
        TailorTape x = strict(PLAIN);
        due("none is needed", x.wedding(0, 0, 99, 0), 0);
        due("the empty set", x.wedding(0, 0, 99, 1), 0);
        for (int k = 0; k < 10; k++) {
            x.does(0, THEFT, 1);
        }
        due("all ten", x.wedding(0, 0, 0, 0), 10);
        due("which", x.wedding(0, 0, 0, 1), 1023);
        due("behind 4 days", x.wedding(0, 0, 4, 0), 10);
        due("behind 5 none is needed", x.wedding(0, 0, 5, 0), 0);
        x.rule(1, 9);
        due("one, the first", x.wedding(0, 0, 0, 1), 1);
        x.cut(0, 0, 70);
        due("NONE", x.wedding(0, 0, 0, 0), NONE);
        due("NONE, which", x.wedding(0, 0, 0, 1), NONE);
        TailorTape y = strict(PLAIN);
        y.cut(0, 0, 54);
        y.does(0, THEFT, 4);
        y.does(0, THEFT, 4);
        due("half of each", y.wedding(0, 0, 0, 1), 3);
        y.mend(0);
        due("half is mended", y.wedding(0, 0, 0, 1), 2);
        y.mend(1);
        due("all is", y.wedding(0, 0, 0, 1), 0);
        due("nothing is left to fill it", y.wedding(0, 0, 99, 0), NONE);
        TailorTape two = strict(PLAIN);
        two.person(PLAIN, 50);
        two.does(0, THEFT, 9);
        two.does(0, THEFT, 9);
        two.does(1, LIE, 2);
        two.cut(0, 0, 58);
        due("both thefts of one", two.wedding(0, 0, 0, 1), 3);
        two.cut(0, 0, 45);
        two.cut(0, 2, 52);
        due("the other one has none of them to mend", two.wedding(1, 0, 0, 0), NONE);
    }

    @Says("BAD.")
    static void promise22Bad() {
        bounds("wedding", 0, 2, 0, 1, 0, 99, 0, 1);
    }

    @Says("CUT: the number (what 0), how much (1).")
    static void promise23NumberHowMuch() {
        TailorTape x = one(PLAIN);
        x.rule(0, 1);
        x.does(0, SLOTH, 9);
        due("now alone", x.bestCut(0, 1, 0, 0), 59);
        due("nothing", x.bestCut(0, 1, 0, 1), 0);
        // 59 down to 51, then 50 on 32 days
        due("40 days", x.bestCut(0, 1, 40, 0), 50);
        due("45 in all", x.bestCut(0, 1, 40, 1), 45);
        // 59 down to 51, then 50 on 8 and on 9 days
        due("the least of 50 and 51", x.bestCut(0, 1, 17, 0), 50);
        due("a day less", x.bestCut(0, 1, 16, 0), 51);
        due("how much", x.bestCut(0, 1, 16, 1), 36 + 8);
        onlyLooks(Edges::busy, "bestCut", 0, 2, 40, 1);
    }

    @Says("BAD.")
    static void promise23Bad() {
        bounds("bestCut", 0, 2, 0, 3, 0, 40, 0, 1);
    }

    @Says("WEAR: how many (person NONE), the SUIT of one (NONE).")
    static void promise24HowManyWhich() {
        due("nobody", empty().wear(NONE), 0);
        TailorTape x = new TailorTape();
        x.person(PLAIN, 50);
        due("no suit", x.wear(NONE), 0);
        due("none", x.wear(0), NONE);
        x.suit(52);
        due("none fits", x.wear(0), NONE);
        x.suit(50);
        due("the second fits", x.wear(0), 1);
        due("one", x.wear(NONE), 1);
        TailorTape most = new TailorTape();
        for (int p = 0; p < 5; p++) {
            most.person(PLAIN, 50 + p);
        }
        for (int s = 0; s < 4; s++) {
            most.suit(52 + s);
        }
        // 50 fits none; 51 fits 52; 52 fits 52, 53; 53 fits 52, 53, 54; 54 fits 53, 54, 55
        int[] want = {NONE, 0, 1, 2, 3};
        for (int p = 0; p < 5; p++) {
            due("the suit of " + p, most.wear(p), want[p]);
        }
        due("four", most.wear(NONE), 4);
        due("what fits tomorrow alone is not worn", fadingTomorrow().wear(NONE), 0);
        due("nor by whom it would fit", fadingTomorrow().wear(0), NONE);
        due("two for a suit, where there were more", wardrobe(most, "5;p50.50.50.50,p50.50.50.50;50.50.50.50"), 2);
        due("one", most.wear(NONE), 1);
        due("the first has it", most.wear(0), 0);
        due("the second has none", most.wear(1), NONE);
    }

    @Says("BAD.")
    static void promise24Bad() {
        bounds("wear", 0, 2);
        for (int person : new int[] {-1, -2, -3, -5, -11}) {
            refuses(Edges::busy, BAD, "wear", person);
        }
        onlyLooks(Edges::busy, "wear", NONE);
    }

    @Says("TAPE: above (what 0), below (1).")
    static void promise25AboveBelow() {
        int[][] cuts = {{50, 50, 50, 50, 1, 1}, {51, 50, 50, 50, 2, 3}, {49, 52, 50, 50, 2, 9}, {52, 48, 50, 50, 1, 9},
            {52, 48, 52, 48, 1, 81}, {51, 51, 49, 49, 16, 81}, {51, 51, 49, 52, 8, 81}, {50, 50, 50, 53, 0, 1},
            {53, 52, 51, 50, 0, 1}};
        for (int[] one : cuts) {
            TailorTape x = one(PLAIN);
            x.suit(50);
            for (int m = 0; m < 4; m++) {
                x.cut(0, m, one[m]);
            }
            due("above", x.luck(0, 0, 0), one[4]);
            due("below", x.luck(0, 0, 1), one[5]);
        }
        TailorTape today = fadingTomorrow();
        today.rule(1, 1);
        due("today, above", today.luck(0, 0, 0), 2);
        due("today, below", today.luck(0, 0, 1), 3);
    }

    @Says("BAD.")
    static void promise25Bad() {
        bounds("luck", 0, 2, 0, 1, 0, 1);
    }

    @Says("WARRANT.")
    static void promise26Warrant() {
        due("an empty shop", empty().warrant(99), 0);
        TailorTape x = full();
        // a lie of 9 halved and a treason of 4; a theft of 8 and a lie of 3 on who is tall; a blow of 7 and a theft of 2
        // on who sits; a greed of 6 and a blow of 1 on a widow; a sloth of 5 and a greed of 9 halved on a saint
        int[] longest = {8, 9, 9, 5, 2};
        for (int p = 0; p < 5; p++) {
            due("by as much as " + p, x.warrant(longest[p]) >> p & 1, 1);
            due("by more than " + p, x.warrant(longest[p] + 1) >> p & 1, 0);
        }
        due("all", x.warrant(1), 31);
        due("none", x.warrant(99), 0);
        due("today, not tomorrow", fadingTomorrow().warrant(1), 1);
    }

    @Says("BAD.")
    static void promise26Bad() {
        bounds("warrant", 1, 99);
    }

    @Says("All but SHEETS, THE TAPE is kept as an IMAGE: 1.")
    static void promise27AllBut() {
        due("of an empty shop", empty().image(), 1);
        TailorTape x = busy();
        due("image", x.image(), 1);
        x.sheet(2, 3, 24);
        x.item(0, 1, 0, 20);
        x.drop(1);
        x.type('4');
        x.restore();
        due("a sheet that came stays", x.drop(2), 24);
        due("one that went is gone", x.drop(1), NULL);
        x.sheet(1, 1, 4);
        x.copy(0, 0, 1, 0, 1);
        due("an item stays as it became", x.done(1, 1, 1, 0, 1), 906);
        due("the tape goes on", x.type(' '), 15);
        due("and is whole", x.wardrobe(), 1);
        TailorTape y = full();
        due("again, in place of the first", y.image(), 1);
        y.undo();
        y.undo();
        y.restore();
        counts("the later one", y, 5, 4, 10, 9999, 5, 1, 513);
    }

    @Says("All is as it was then: 1.")
    static void promise28AsThen() {
        TailorTape x = full();
        x.image();
        due("a wardrobe in its place", wardrobe(x, "30;p10.10.10.10"), 1);
        x.rule(1, 9);
        x.seed(5);
        due("restore", x.restore(), 1);
        TailorTape y = full();
        y.image();
        due("the tape is no part of it", wardrobe(y, "x"), -20);
        alike("all as it was then", x, y);
        othersDoneSince();
        TailorTape z = empty();
        z.image();
        z.person(PLAIN, 50);
        z.suit(50);
        z.days(9);
        due("an empty shop", z.restore(), 1);
        counts("empty", z, 0, 0, 0, 0, 5, 1, 0, 0, 0);
        due("as often as one likes", z.restore(), 1);
        due("nothing to undo", z.undo(), NONE);
    }

    /** Deeds done and undone behind the image lie where those of the image lay. */
    private static void othersDoneSince() {
        TailorTape x = busy();
        due("image", x.image(), 1);
        for (int k = 0; k < 8; k++) {
            x.undo();
        }
        x.days(50);
        for (int d = x.count(2); d < 10; d++) {
            x.does(1, GREED, 1);
        }
        due("restore", x.restore(), 1);
        TailorTape y = busy();
        y.image();
        alike("other deeds since", x, y);
    }

    @Says("NONE: there is none.")
    static void promise28None() {
        refuses(Edges::empty, NONE, "restore");
        refuses(() -> shortOf(1), NONE, "restore");
    }

    // ---- 3 sheets

    /** As busy, with a row of 24 bytes on the third sheet: nothing, but for the last four items. */
    private static TailorTape rows() {
        TailorTape x = busy();
        x.sheet(2, 0, 24);
        x.item(2, 0, 20, 3);
        return x;
    }

    @Says("DONE by a PERSON, four items of a SHEET taken as a row of a LANE, from item i on: how many ways (what 0), the "
            + "first (1; NONE).")
    static void promise29FourItems() {
        TailorTape x = rows();
        due("the last four", x.done(0, 2, 0, 20, 0), 2);
        due("the first way", x.done(0, 2, 0, 20, 1), 302);
        due("as the seat", x.done(0, 2, 0, 19, 1), 316);
        due("the first four, how many", x.done(0, 2, 0, 0, 0), 0);
        due("the first four", x.done(0, 2, 0, 0, 1), NONE);
        due("by another one, who is tall", x.done(1, 2, 0, 20, 1), 202);
        due("a row of just four", x.done(0, 1, 2, 0, 1), NONE);
        onlyLooks(EdgesTest::rows, "done", 0, 2, 0, 20, 1);
        byteRow(x, 256 + 5, 502);
        byteRow(x, -256 + 5, 502);
        byteRow(x, 128, NONE);
        byteRow(x, -1, NONE);
    }

    private static void byteRow(TailorTape x, long v, int first) {
        x.item(2, 0, 20, v);
        due("a byte of " + v, x.done(0, 2, 0, 20, 1), first);
    }

    @Says("BAD;")
    static void promise29Bad() {
        bounds("done", 0, 2, 0, 3, 0, 3, LEAST, MOST, 0, 1);
    }

    @Says("NULL;")
    static void promise29Null() {
        refuses(Edges::busy, NULL, "done", 0, 2, 0, 0, 0);
        refuses(Edges::busy, NULL, "done", 0, 3, 3, LEAST, 1);
    }

    @Says("CAST;")
    static void promise29Cast() {
        for (int lane : new int[] {0, 2, 3}) {
            refuses(Edges::busy, CAST, "done", 0, 0, lane, 0, 0);
            refuses(Edges::busy, CAST, "done", 0, 0, lane, 2, 1);
        }
    }

    @Says("INDEX.")
    static void promise29Index() {
        due("the last that there is", busy().done(0, 0, 1, 1, 0), 0);
        for (int i : new int[] {-1, 2, 5, LEAST, MOST, MOST - 2}) {
            refuses(Edges::busy, INDEX, "done", 0, 0, 1, i, 0);
        }
        for (int n = 0; n < 4; n++) {
            TailorTape x = busy();
            x.sheet(2, 3, n);
            due("of " + n + " items", x.done(0, 2, 3, 0, 0), INDEX);
        }
        due("of 24", rows().done(0, 2, 0, 21, 0), INDEX);
    }

    @Says("A MEASURE of a PERSON behind 1, 2, .. n DAYS (1 .. 24), an item each, comes to a SHEET likewise: n.")
    static void promise30Comes() {
        TailorTape x = new TailorTape();
        x.person(TALL, 10);
        x.rule(0, 12);
        for (int k = 0; k < 2; k++) {
            x.does(0, THEFT, 2);
        }
        // 16 now and up to behind 11 days, 14 up to behind 23, 10 from then on
        x.sheet(0, 0, 24);
        due("24 days", x.film(0, 0, 24, 0, 0, 0), 24);
        int[] days = {0, 10, 11, 22, 23};
        int[] want = {16, 16, 14, 14, 10};
        for (int k = 0; k < days.length; k++) {
            due("behind " + (days[k] + 1), seen(x, days[k]), want[k]);
        }
        due("one day, as the last item", x.film(0, 1, 1, 0, 0, 23), 1);
        due("of the seat", seen(x, 23), 10);
        due("the one ahead stays", seen(x, 22), 14);
        due("nothing is changed", x.count(3), 0);
        x.sheet(0, 0, 24);
        due("two in the middle", x.film(0, 0, 2, 0, 0, 11), 2);
        due("ahead of them", seen(x, 10), 0);
        due("the first", seen(x, 11), 16);
        due("the second", seen(x, 12), 16);
        due("behind them", seen(x, 13), 0);
        bytesOfALongSeat();
    }

    /** What an item of the bytes on sheet 0 is, 0 or an even number of 4 to 20: a theft and a blow of who is tall. */
    private static int seen(TailorTape x, int i) {
        x.sheet(1, 0, 4);
        x.copy(0, i, 1, 0, 1);
        int way = x.done(0, 1, 0, 0, 1);
        return way == NONE ? 0 : 2 * (way / 100 + 1);
    }

    private static void bytesOfALongSeat() {
        TailorTape x = one(SEATED);
        x.person(TALL, 50);
        x.own(0, 1, 86);
        for (int k = 0; k < 10; k++) {
            x.does(0, TREASON, 9);
        }
        x.sheet(0, 0, 4);
        due("266 as a byte", x.film(0, 1, 1, 0, 0, 0), 1);
        due("is 10", x.done(1, 0, 0, 0, 1), 406);
        x.sheet(1, 1, 4);
        due("266 as a short", x.film(0, 1, 1, 1, 1, 0), 1);
        due("is not", x.done(1, 1, 1, 0, 1), NONE);
    }

    @Says("BAD;")
    static void promise30Bad() {
        bounds("film", 0, 2, 0, 3, 1, 24, 0, 3, 0, 3, LEAST, MOST);
    }

    @Says("NULL;")
    static void promise30Null() {
        refuses(Edges::busy, NULL, "film", 0, 0, 1, 2, 0, 0);
        refuses(Edges::busy, NULL, "film", 0, 0, 24, 3, 3, MOST);
    }

    @Says("CAST;")
    static void promise30Cast() {
        for (int lane : new int[] {0, 2, 3}) {
            refuses(Edges::busy, CAST, "film", 0, 0, 1, 0, lane, 0);
            refuses(Edges::busy, CAST, "film", 0, 0, 24, 0, lane, 0);
        }
    }

    @Says("INDEX.")
    static void promise30Index() {
        due("all of a row", busy().film(0, 0, 5, 0, 1, 0), 5);
        due("its last item", busy().film(0, 0, 1, 0, 1, 4), 1);
        refuses(Edges::busy, INDEX, "film", 0, 0, 6, 0, 1, 0);
        refuses(Edges::busy, INDEX, "film", 0, 0, 24, 0, 1, 0);
        refuses(Edges::busy, INDEX, "film", 0, 0, 3, 0, 1, 3);
        for (int i : new int[] {-1, 5, LEAST, MOST}) {
            refuses(Edges::busy, INDEX, "film", 0, 0, 1, 0, 1, i);
        }
        TailorTape x = busy();
        x.sheet(2, 0, 0);
        due("a row of no items", x.film(0, 0, 1, 2, 0, 0), INDEX);
    }

    @Says("A SHEET holds a new row of a LANE: n.")
    static void promise31NewRow() {
        TailorTape x = busy();
        due("none", x.sheet(0, 0, 0), 0);
        due("it had none", x.drop(0), 0);
        due("24", x.sheet(3, 3, 24), 24);
        due("in place of that", x.sheet(3, 0, 4), 4);
        due("its lane", x.item(3, 3, 0, 0), CAST);
        row(x, 3, 0, 0, 0, 7, 0);
        due("a lie of 7", x.done(0, 3, 0, 0, 1), 701);
        due("a new one", x.sheet(3, 0, 4), 4);
        x.item(3, 0, 0, 7);
        due("holds nothing of the old", x.done(0, 3, 0, 0, 1), 702);
        due("others stay", x.drop(1), 4);
    }

    @Says("BAD: also n above 24;")
    static void promise31Bad() {
        for (int out : new int[] {-1, 4, LEAST, MOST}) {
            for (int n : new int[] {-1, 0, 24, 25}) {
                refuses(Edges::busy, BAD, "sheet", out, 1, n);
                refuses(Edges::busy, BAD, "sheet", 0, out, n);
            }
        }
        refuses(Edges::busy, BAD, "sheet", 0, 1, 25);
        refuses(Edges::busy, BAD, "sheet", 0, 1, MOST);
        due("24 is not", busy().sheet(0, 1, 24), 24);
    }

    @Says("SIZE: n below 0.")
    static void promise31Size() {
        refuses(Edges::busy, SIZE, "sheet", 0, 1, -1);
        refuses(Edges::busy, SIZE, "sheet", 3, 3, LEAST);
        due("0 is not", busy().sheet(0, 1, 0), 0);
    }

    @Says("A SHEET holds nothing: how many items it had.")
    static void promise32HowMany() {
        TailorTape x = busy();
        due("five", x.drop(0), 5);
        due("nothing", x.item(0, 1, 0, 0), NULL);
        due("the other stays", x.drop(1), 4);
        x.sheet(3, 2, 0);
        due("none", x.drop(3), 0);
        x.sheet(3, 2, 24);
        due("24", x.drop(3), 24);
    }

    @Says("BAD;")
    static void promise32Bad() {
        bounds("drop", 0, 3);
    }

    @Says("NULL.")
    static void promise32Null() {
        refuses(Edges::busy, NULL, "drop", 2);
        refuses(Edges::busy, NULL, "drop", 3);
        TailorTape x = busy();
        x.drop(0);
        due("twice", x.drop(0), NULL);
    }

    @Says("Item i of a SHEET, taken as a row of a LANE, becomes v, its lowest bits: 1.")
    static void promise33LowestBits() {
        // by lane: numbers of which the lowest bits are 5, and numbers of which they are not
        long[][] five = {{5, 256 + 5, -256 + 5, Long.MIN_VALUE + 5, -251}, {5, 65536 + 5, -65536 + 5, Long.MIN_VALUE + 5},
            {5, (1L << 32) + 5, -(1L << 32) + 5, Long.MIN_VALUE + 5}, {5}};
        long[][] other = {{-5, 128 + 5, Long.MAX_VALUE}, {256 + 5, -256 + 5, 32768 + 5}, {65536 + 5, LEAST + 5, 261},
            {(1L << 32) + 5, Long.MIN_VALUE + 5, Long.MAX_VALUE}};
        for (int lane = 0; lane < 4; lane++) {
            TailorTape x = one(PLAIN);
            x.sheet(lane, lane, 24);
            for (long v : five[lane]) {
                due("becomes " + v, x.item(lane, lane, 22, v), 1);
                due("its lowest bits, lane " + lane, x.done(0, lane, lane, 20, 1), 501);
            }
            for (long v : other[lane]) {
                due("becomes " + v, x.item(lane, lane, 22, v), 1);
                due("not 5, lane " + lane, x.done(0, lane, lane, 20, 1), NONE);
            }
            due("the first", x.item(lane, lane, 0, 9), 1);
            due("the last", x.item(lane, lane, 23, 9), 1);
            due("the last", x.done(0, lane, lane, 20, 1), NONE);
            x.item(lane, lane, 22, 0);
            due("a greed of 9", x.done(0, lane, lane, 20, 1), 908);
            due("a theft of 9", x.done(0, lane, lane, 0, 1), 902);
        }
    }

    @Says("BAD;")
    static void promise33Bad() {
        bounds("item", 0, 3, 0, 3, LEAST, MOST, LEAST, MOST);
    }

    @Says("NULL;")
    static void promise33Null() {
        refuses(Edges::busy, NULL, "item", 2, 0, 0, 1);
        refuses(Edges::busy, NULL, "item", 3, 3, MOST, Long.MIN_VALUE);
    }

    @Says("CAST;")
    static void promise33Cast() {
        for (int lane : new int[] {0, 2, 3}) {
            refuses(Edges::busy, CAST, "item", 0, lane, 0, 9);
            refuses(Edges::busy, CAST, "item", 0, lane, 5, 9);
        }
    }

    @Says("INDEX.")
    static void promise33Index() {
        due("the last that there is", busy().item(0, 1, 4, 9), 1);
        for (int i : new int[] {-1, 5, 24, LEAST, MOST}) {
            refuses(Edges::busy, INDEX, "item", 0, 1, i, 9);
        }
        TailorTape x = busy();
        x.sheet(2, 0, 0);
        due("a row of no items", x.item(2, 0, 0, 9), INDEX);
    }

    /** Copies within a sheet of items 4, 6, .. 14 (or to another one), then looks at it. */
    private static void copied(int i, int j, int n, int... want) {
        TailorTape x = one(TALL);
        x.sheet(0, 0, 6);
        row(x, 0, 0, 4, 6, 8, 10, 12, 14);
        due("copy of " + n + " from " + i + " to " + j, x.copy(0, i, 0, j, n), n);
        for (int k = 0; k < 6; k++) {
            due("item " + k, seen(x, k), want[k]);
        }
    }

    @Says("n items of a SHEET from i on come to another one (or the same) from j on, as if all were taken ahead: n.")
    static void promise34AsIfTakenAhead() {
        copied(0, 1, 5, 4, 4, 6, 8, 10, 12);
        copied(1, 0, 5, 6, 8, 10, 12, 14, 14);
        copied(0, 5, 1, 4, 6, 8, 10, 12, 4);
        copied(5, 0, 1, 14, 6, 8, 10, 12, 14);
        copied(0, 0, 6, 4, 6, 8, 10, 12, 14);
        copied(2, 3, 2, 4, 6, 8, 8, 10, 14);
        copied(6, 6, 0, 4, 6, 8, 10, 12, 14);
        copied(0, 6, 0, 4, 6, 8, 10, 12, 14);
        TailorTape x = one(TALL);
        x.sheet(2, 0, 24);
        x.sheet(0, 0, 24);
        x.item(2, 0, 0, 4);
        x.item(2, 0, 23, 14);
        due("all 24 to another one", x.copy(2, 0, 0, 0, 24), 24);
        due("the first", seen(x, 0), 4);
        due("the last", seen(x, 23), 14);
        x.item(2, 0, 0, 20);
        due("they are apart", seen(x, 0), 4);
        x.sheet(1, 0, 0);
        due("none of an empty one", x.copy(1, 0, 1, 0, 0), 0);
        due("none to an empty one", x.copy(0, 24, 1, 0, 0), 0);
    }

    @Says("BAD;")
    static void promise34Bad() {
        bounds("copy", 0, 3, LEAST, MOST, 0, 3, LEAST, MOST, LEAST, MOST);
    }

    @Says("NULL (either);")
    static void promise34Null() {
        refuses(Edges::busy, NULL, "copy", 2, 0, 0, 0, 1);
        refuses(Edges::busy, NULL, "copy", 0, 0, 2, 0, 1);
        refuses(Edges::busy, NULL, "copy", 2, 0, 3, 0, 1);
        refuses(Edges::busy, NULL, "copy", 2, 0, 2, 0, 0);
        refuses(Edges::busy, NULL, "copy", 1, -1, 2, MOST, LEAST);
    }

    @Says("CAST: of unlike LANES;")
    static void promise34Cast() {
        refuses(Edges::busy, CAST, "copy", 0, 0, 1, 0, 1);
        refuses(Edges::busy, CAST, "copy", 1, 0, 0, 0, 1);
        refuses(Edges::busy, CAST, "copy", 1, 0, 0, 0, 0);
        refuses(Edges::busy, CAST, "copy", 1, -1, 0, -1, -1);
        for (int from = 0; from < 4; from++) {
            for (int to = 0; to < 4; to++) {
                TailorTape x = new TailorTape();
                x.sheet(0, from, 1);
                x.sheet(1, to, 1);
                due("lane " + from + " to lane " + to, x.copy(0, 0, 1, 0, 1), from == to ? 1 : CAST);
            }
        }
    }

    @Says("INDEX.")
    static void promise34Index() {
        int[][] outside = {{-1, 0, 1}, {0, -1, 1}, {5, 0, 1}, {0, 5, 1}, {0, 0, 6}, {1, 0, 5}, {0, 1, 5}, {0, 0, -1}, {2, 2, -1},
            {6, 0, 0}, {0, 6, 0}, {-1, 0, 0}, {0, -1, 0}, {MOST, 0, 1}, {0, MOST, 1}, {1, 1, MOST}, {MOST, MOST, MOST},
            {LEAST, 0, 1}, {0, LEAST, 1}, {0, 0, LEAST}, {LEAST, LEAST, LEAST}, {1, 0, LEAST}, {MOST, 0, LEAST}};
        for (int[] one : outside) {
            refuses(Edges::busy, INDEX, "copy", 0, one[0], 0, one[1], one[2]);
        }
        due("none behind the last", busy().copy(0, 5, 0, 5, 0), 0);
        due("all", busy().copy(0, 0, 0, 0, 5), 5);
        TailorTape x = busy();
        x.sheet(2, 1, 2);
        due("more than it has room for", x.copy(0, 0, 2, 0, 3), INDEX);
        due("more than there are", x.copy(2, 0, 0, 0, 3), INDEX);
        due("as many as there are", x.copy(2, 0, 0, 3, 2), 2);
    }
}
