/** For each promise of the document: ordinary inputs, the edges that it names, and wrong inputs. */
public final class PromiseTest {
    private static final int BAD = -1, NOT = -2, FULL = -3, NONE = -4, NULL = -11, CAST = -12, INDEX = -13, SIZE = -14;
    private static final int LEAST = Integer.MIN_VALUE, MOST = Integer.MAX_VALUE;
    private static final int LIE = 0, THEFT = 1, BLOW = 2, GREED = 3, SLOTH = 4, TREASON = 5;
    private static final int PLAIN = 0, TALL = 1, SEATED = 2, WIDOW = 3, SAINT = 4;
    private static final Due DUE = new Due();
    private static String now = "";

    private PromiseTest() {
    }

    public static void main(String[] args) {
        promise1NewObject();
        promise2Person();
        promise3Own();
        promise4Suit();
        promise5Cut();
        promise6Of();
        promise6Kinds();
        promise7Deed();
        promise8Tries();
        promise9Rule();
        promise10Type();
        promise11Wardrobe();
        promise11Faults();
        promise12Count();
        promise13Does();
        promise14Mend();
        promise15Days();
        promise16Drift();
        promise17Undo();
        promise18Seed();
        promise19Ahead();
        promise20ShowsAhead();
        promise21Again();
        promise22Wedding();
        promise23BestCut();
        promise24Wear();
        promise25Luck();
        promise26Warrant();
        promise27And28Images();
        promise29Done();
        promise30Film();
        promise31Sheet();
        promise32Drop();
        promise33Item();
        promise34Copy();
        DUE.end("PromiseTest");
    }

    private static void at(String promise) {
        now = promise;
    }

    private static void due(String call, long got, long want) {
        DUE.is(now + ": " + call, got, want);
    }

    private static int tapes(TailorTape x, String text) {
        for (int k = 0; k < text.length(); k++) {
            due("type of letter " + k + " of " + text, x.type(text.charAt(k)), k + 1);
        }
        return x.wardrobe();
    }

    private static void measures(TailorTape x, int person, int... want) {
        for (int m = 0; m < 4; m++) {
            due("of(" + person + ", " + m + ")", x.of(person, m), want[m]);
        }
    }

    /** A shop with one person of a kind, all of whose own measures are 50. */
    private static TailorTape one(int kind) {
        TailorTape x = new TailorTape();
        x.person(kind, 50);
        return x;
    }

    /** One whose sleeve is 51 today and 50 tomorrow; a suit that fits tomorrow alone. */
    private static TailorTape tomorrow() {
        TailorTape x = one(PLAIN);
        x.suit(50);
        x.rule(0, 1);
        x.rule(1, 0);
        x.does(0, THEFT, 1);
        return x;
    }

    private static void row(TailorTape x, int sheet, int lane, int from, long... items) {
        for (int k = 0; k < items.length; k++) {
            due("item " + (from + k), x.item(sheet, lane, from + k, items[k]), 1);
        }
    }

    private static void promise1NewObject() {
        at("1 a new object");
        TailorTape x = new TailorTape();
        int[] want = {0, 0, 0, 0, 5, 1, 0, 0, 0};
        for (int k = 0; k < want.length; k++) {
            due("count(" + k + ")", x.count(k), want[k]);
        }
        due("THE DRAW", x.seed(1), 1);
        due("restore", x.restore(), NONE);
        due("undo", x.undo(), NONE);
        for (int k = 0; k < 4; k++) {
            due("drop(" + k + ")", x.drop(k), NULL);
        }
        due("the tape is empty", x.type('5'), 1);
    }

    private static void promise2Person() {
        at("2 person");
        TailorTape x = new TailorTape();
        due("kind -1", x.person(-1, 10), BAD);
        due("kind 5", x.person(5, 10), BAD);
        due("v 9", x.person(0, 9), BAD);
        due("v 100", x.person(0, 100), BAD);
        due("nobody came", x.count(0), 0);
        for (int k = 0; k < 5; k++) {
            due("person " + k, x.person(k, k == 4 ? 99 : 10 + k), k);
            due("its kind", x.of(k, 8), k);
        }
        for (int m = 0; m < 4; m++) {
            due("own of 3", x.of(3, 4 + m), 13);
            due("own of 4", x.of(4, 4 + m), 99);
        }
        due("a sixth", x.person(0, 10), FULL);
        due("a bad sixth", x.person(0, 9), BAD);
        due("five stay", x.count(0), 5);
    }

    private static void promise3Own() {
        at("3 own");
        TailorTape x = one(PLAIN);
        due("sleeve", x.own(0, 0, 10), 50);
        due("sleeve again", x.own(0, 0, 99), 10);
        due("waist", x.own(0, 3, 77), 50);
        measures(x, 0, 99, 50, 50, 77);
        due("v 9", x.own(0, 0, 9), BAD);
        due("v 100", x.own(0, 0, 100), BAD);
        due("measure -1", x.own(0, -1, 50), BAD);
        due("measure 4", x.own(0, 4, 50), BAD);
        due("person 1", x.own(1, 0, 50), BAD);
        due("person -1", x.own(-1, 0, 50), BAD);
        measures(x, 0, 99, 50, 50, 77);
    }

    private static void promise4Suit() {
        at("4 suit");
        TailorTape x = new TailorTape();
        due("v -1", x.suit(-1), BAD);
        due("v 200", x.suit(200), BAD);
        due("first", x.suit(0), 0);
        due("second", x.suit(199), 1);
        due("third", x.suit(50), 2);
        due("fourth", x.suit(51), 3);
        due("fifth", x.suit(52), FULL);
        due("a bad fifth", x.suit(200), BAD);
        due("four stay", x.count(1), 4);
        for (int m = 0; m < 4; m++) {
            due("cut of 1", x.cut(1, m, 199), 199);
            due("cut of 0", x.cut(0, m, 0), 0);
        }
    }

    private static void promise5Cut() {
        at("5 cut");
        TailorTape x = new TailorTape();
        due("no suit", x.cut(0, 0, 50), BAD);
        x.suit(50);
        due("sleeve", x.cut(0, 0, 0), 50);
        due("sleeve again", x.cut(0, 0, 199), 0);
        due("waist", x.cut(0, 3, 7), 50);
        due("v -1", x.cut(0, 3, -1), BAD);
        due("v 200", x.cut(0, 3, 200), BAD);
        due("measure 4", x.cut(0, 4, 0), BAD);
        due("measure -1", x.cut(0, -1, 0), BAD);
        due("suit -1", x.cut(-1, 0, 0), BAD);
        due("suit 1", x.cut(1, 0, 0), BAD);
        due("waist stayed", x.cut(0, 3, 8), 7);
        due("sleeve stayed", x.cut(0, 0, 8), 199);
        due("seat stayed", x.cut(0, 1, 8), 50);
    }

    private static void promise6Of() {
        at("6 of");
        TailorTape x = one(PLAIN);
        x.person(WIDOW, 60);
        x.does(0, THEFT, 4);
        x.does(1, GREED, 3);
        x.does(0, LIE, 2);
        measures(x, 0, 54, 50, 52, 50);
        for (int m = 4; m < 8; m++) {
            due("own", x.of(0, m), 50);
        }
        due("kind", x.of(1, 8), WIDOW);
        due("deeds of 0", x.of(0, 9), 5);
        due("deeds of 1", x.of(1, 9), 2);
        measures(tomorrow(), 0, 51, 50, 50, 50);
        due("what 10", x.of(0, 10), BAD);
        due("what -1", x.of(0, -1), BAD);
        due("person 2", x.of(2, 0), BAD);
        due("person -1", x.of(-1, 0), BAD);
        due("what MOST", x.of(0, MOST), BAD);
    }

    private static void promise6Kinds() {
        at("6 of, by kind and sort");
        int[][][] longer = {
            {{0, 0, 3, 0}, {3, 0, 0, 0}, {3, 0, 0, 0}, {0, 0, 0, 3}, {0, 3, 0, 0}, {3, 3, 3, 3}},
            {{0, 0, 4, 0}, {4, 0, 0, 0}, {4, 0, 0, 0}, {0, 0, 0, 4}, {0, 4, 0, 0}, {4, 4, 4, 4}},
            {{0, 0, 3, 0}, {0, 3, 0, 0}, {0, 3, 0, 0}, {0, 0, 0, 3}, {0, 3, 0, 0}, {0, 6, 3, 3}},
            {{0, 0, 2, 0}, {2, 0, 0, 0}, {2, 0, 0, 0}, {0, 0, 0, 2}, {0, 2, 0, 0}, {2, 2, 2, 2}},
            {{0, 0, 1, 0}, {0, 1, 0, 0}, {0, 1, 0, 0}, {0, 0, 0, 1}, {0, 1, 0, 0}, {0, 3, 1, 1}},
        };
        for (int kind = 0; kind < 5; kind++) {
            for (int sort = 0; sort < 6; sort++) {
                TailorTape x = one(kind);
                x.does(0, sort, 3);
                int[] by = longer[kind][sort];
                measures(x, 0, 50 + by[0], 50 + by[1], 50 + by[2], 50 + by[3]);
                // of three, nothing is left behind 15 days, and nothing shows on anyone then
                x.days(15);
                measures(x, 0, 50, 50, 50, 50);
            }
        }
        TailorTape x = one(WIDOW);
        x.does(0, TREASON, 1);
        measures(x, 0, 50, 50, 50, 50);
        x = one(SAINT);
        x.does(0, THEFT, 1);
        x.does(0, BLOW, 1);
        measures(x, 0, 50, 50, 50, 50);
        x = one(TALL);
        x.does(0, THEFT, 1);
        x.mend(0);
        measures(x, 0, 50, 50, 50, 50);
        x = one(TALL);
        x.does(0, THEFT, 9);
        x.mend(0);
        measures(x, 0, 55, 50, 50, 50);
    }

    private static void promise7Deed() {
        at("7 deed");
        TailorTape x = one(PLAIN);
        x.person(TALL, 60);
        due("none yet", x.deed(0, 0), BAD);
        x.days(7);
        x.does(1, SLOTH, 9);
        x.does(0, GREED, 5);
        int[] want = {1, 4, 9, 7, 0, 9};
        for (int k = 0; k < want.length; k++) {
            due("deed(0, " + k + ")", x.deed(0, k), want[k]);
        }
        due("who did 1", x.deed(1, 0), 0);
        x.days(4);
        due("left behind 4", x.deed(0, 5), 9);
        x.days(1);
        due("left behind 5", x.deed(0, 5), 8);
        x.days(5);
        due("left behind 10", x.deed(0, 5), 7);
        x.mend(0);
        due("mended", x.deed(0, 4), 1);
        due("left of a mended one", x.deed(0, 5), 3);
        due("the other is not", x.deed(1, 4), 0);
        x.days(99);
        due("nothing is left", x.deed(1, 5), 0);
        due("what 6", x.deed(0, 6), BAD);
        due("what -1", x.deed(0, -1), BAD);
        due("deed 2", x.deed(2, 0), BAD);
        due("deed -1", x.deed(-1, 0), BAD);
        due("deed LEAST", x.deed(LEAST, 0), BAD);
    }

    private static void promise8Tries() {
        at("8 tries");
        TailorTape x = one(PLAIN);
        due("no suit", x.tries(0, 0, 0), BAD);
        x.suit(50);
        due("shows nothing", x.tries(0, 0, 0), 0);
        due("fits", x.tries(0, 0, 1), 1);
        x.cut(0, 0, 51);
        x.cut(0, 1, 49);
        due("shows either way", x.tries(0, 0, 0), 2);
        due("fits by the ease", x.tries(0, 0, 1), 1);
        x.cut(0, 3, 52);
        due("shows more", x.tries(0, 0, 0), 4);
        due("waist is too far", x.tries(0, 0, 1), 0);
        x.rule(1, 2);
        due("fits by more ease", x.tries(0, 0, 1), 1);
        x.does(0, GREED, 2);
        due("grown into it", x.tries(0, 0, 0), 2);
        x.rule(1, 0);
        due("no ease", x.tries(0, 0, 1), 0);
        due("shows today", tomorrow().tries(0, 0, 0), 1);
        due("fits tomorrow alone", tomorrow().tries(0, 0, 1), 0);
        TailorTape two = one(PLAIN);
        two.person(PLAIN, 20);
        two.suit(50);
        two.suit(90);
        due("of the first alone", two.tries(0, 0, 0), 0);
        due("the first alone", two.tries(0, 0, 1), 1);
        due("the other one", two.tries(1, 0, 0), 120);
        due("the other suit", two.tries(0, 1, 0), 160);
        due("what 2", x.tries(0, 0, 2), BAD);
        due("what -1", x.tries(0, 0, -1), BAD);
        due("person 1", x.tries(1, 0, 0), BAD);
        due("suit 1", x.tries(0, 1, 0), BAD);
        due("suit -1", x.tries(0, -1, 0), BAD);
    }

    private static void promise9Rule() {
        at("9 rule");
        TailorTape x = one(PLAIN);
        due("fade", x.rule(0, 30), 5);
        due("fade again", x.rule(0, 1), 30);
        due("ease", x.rule(1, 9), 1);
        due("ease again", x.rule(1, 0), 9);
        due("fade 0", x.rule(0, 0), BAD);
        due("fade 31", x.rule(0, 31), BAD);
        due("ease 10", x.rule(1, 10), BAD);
        due("ease -1", x.rule(1, -1), BAD);
        due("what 2", x.rule(2, 1), BAD);
        due("what -1", x.rule(-1, 1), BAD);
        due("fade stayed", x.count(4), 1);
        due("ease stayed", x.count(5), 0);
        x.does(0, THEFT, 9);
        due("left by fade 1", x.days(4), 5);
        x.rule(0, 2);
        due("left by fade 2", x.count(7), 7);
    }

    private static void promise10Type() {
        at("10 type");
        TailorTape x = new TailorTape();
        due("31", x.type(31), BAD);
        due("127", x.type(127), BAD);
        due("LEAST", x.type(LEAST), BAD);
        for (int k = 1; k <= 130; k++) {
            due("letter " + k, x.type(k % 2 == 0 ? 32 : 126), k);
        }
        due("one more", x.type(32), FULL);
        due("a bad one more", x.type(31), BAD);
        due("the first can't stand", x.wardrobe(), -20);
        due("it is empty then", x.type(32), 1);
    }

    private static void promise11Wardrobe() {
        at("11 wardrobe");
        TailorTape x = one(SAINT);
        x.suit(50);
        x.suit(50);
        x.rule(1, 7);
        x.seed(99);
        x.does(0, THEFT, 3);
        x.mend(0);
        x.days(9);
        due("whole", tapes(x, "30;p10.11.12.13,t99.98.97.96,s20.20.20.20,w30.30.30.30,h40.40.40.40;0.1.198.199"), 5);
        int[] want = {5, 1, 0, 0, 30, 7, 0, 0, 0};
        for (int k = 0; k < want.length; k++) {
            due("count(" + k + ")", x.count(k), want[k]);
        }
        due("THE DRAW stays", x.seed(0), 99);
        due("deed 0 is gone", x.deed(0, 0), BAD);
        measures(x, 0, 10, 11, 12, 13);
        measures(x, 1, 99, 98, 97, 96);
        for (int k = 0; k < 5; k++) {
            due("kind " + k, x.of(k, 8), k);
        }
        int[] cuts = {0, 1, 198, 199};
        for (int m = 0; m < 4; m++) {
            due("cut " + m, x.cut(0, m, 5), cuts[m]);
        }
        due("no suits in it", tapes(x, "1;h10.10.10.10"), 1);
        due("none is left", x.count(1), 0);
        due("fade", x.count(4), 1);
        due("four suits", tapes(x, "1;h10.10.10.10;1.1.1.1,2.2.2.2,3.3.3.3,4.4.4.4"), 1);
        due("four", x.count(1), 4);
        due("the last one's cut", x.cut(3, 3, 0), 4);
        x = new TailorTape();
        due("blanks", tapes(x, "  7 ; t 10 . 011 .12. 99 , p 20.20.20.20 ; 000 . 7.07.  007  "), 2);
        measures(x, 0, 10, 11, 12, 99);
        due("cut with noughts", x.cut(0, 3, 0), 7);
        due("three digits of fade", tapes(x, "009;p010.099.10.10"), 1);
        due("fade", x.count(4), 9);
        String four = "100.100.100.100";
        String tail = ";" + four + "," + four + "," + four + "," + four;
        String head = "7;p10.10.10.10";
        due("a full tape to its last digit", tapes(x, head + " ".repeat(130 - 14 - tail.length()) + tail), 1);
        due("four suits of it", x.count(1), 4);
        x = new TailorTape();
        due("a full tape with blanks behind", tapes(x, head + " ".repeat(130 - 14)), 1);
        due("what was behind is forgotten", tapes(x, "5"), -21);
        due("a full tape that lacks all", tapes(x, " ".repeat(130)), -150);
        due("a full tape that lacks a letter", tapes(x, " ".repeat(130 - 11) + "5;p10.10.10"), -150);
    }

    private static void promise11Faults() {
        at("11 wardrobe, faults");
        String person = "5;p10.10.10.10";
        Object[][] faults = {
            {"", 0}, {"   ", 3}, {"x", 0}, {"  x", 2}, {"0", 0}, {"31", 0}, {" 31;", 1}, {"5", 1}, {"5  ", 3},
            {"5.", 1}, {"5 5;", 2}, {"5;", 2}, {"5;P", 2}, {"5;p", 3}, {"5;p9", 3}, {"5;p100", 3}, {"5; p  9.", 6},
            {"5;p.", 3}, {"5;p1 0.", 3}, {"5;p10", 5}, {"5;p10,", 5}, {"5;p10.", 6}, {"5;p10.10.10", 11},
            {"5;p10.10.10,", 11}, {"5;p10.10.10.9", 12}, {person + ".", 14}, {person + ",", 15},
            {person + ";", 15}, {person + "x", 14}, {person + " 5", 15}, {person + ",q", 15},
            {person + ";p", 15}, {person + ";200", 15}, {person + ";1.200", 17}, {person + ";1.1.1", 20},
            {person + ";1.1.1.1,", 23}, {person + ";1.1.1.1;", 22}, {person + ";1.1.1.1.", 22},
            {person + ";1.1.1.1,1.1.1.1,1.1.1.1,1.1.1.1,1.1.1.1", 46}, {person + ";-1", 15},
            {person + ",p10.10.10.10,p10.10.10.10,p10.10.10.10,p10.10.10.10,p10.10.10.10", 66},
            {person + ";1.1.1.1000", 21 + 3}, {"0100;", 3}, {"5;p0100.", 6}, {"1000;", 0}, {";", 0},
        };
        for (Object[] fault : faults) {
            TailorTape x = one(WIDOW);
            x.suit(44);
            x.does(0, TREASON, 4);
            x.days(1);
            String text = (String) fault[0];
            due("'" + text + "'", tapes(x, text), -20 - (Integer) fault[1]);
            due("the tape is empty behind it", x.type(' '), 1);
            int[] want = {1, 1, 1, 1, 5, 1, 0, 4, 2};
            for (int k = 0; k < want.length; k++) {
                due("count(" + k + ") stays", x.count(k), want[k]);
            }
            due("own stays", x.of(0, 4), 50);
            due("cut stays", x.cut(0, 0, 0), 44);
        }
    }

    private static void promise12Count() {
        at("12 count");
        TailorTape x = one(PLAIN);
        x.person(TALL, 60);
        x.suit(50);
        x.suit(51);
        x.suit(52);
        x.rule(0, 2);
        x.rule(1, 3);
        x.does(0, LIE, 9);
        x.does(1, LIE, 8);
        x.does(0, LIE, 7);
        x.does(1, LIE, 1);
        x.mend(2);
        x.mend(0);
        x.days(2);
        int[] want = {2, 3, 4, 2, 2, 3, 5, 4 + 7 + 3 + 0, 8};
        for (int k = 0; k < want.length; k++) {
            due("count(" + k + ")", x.count(k), want[k]);
        }
        due("what 9", x.count(9), BAD);
        due("what -1", x.count(-1), BAD);
        due("what LEAST", x.count(LEAST), BAD);
    }

    private static void promise13Does() {
        at("13 does");
        TailorTape x = new TailorTape();
        due("nobody", x.does(0, 0, 1), BAD);
        x.person(PLAIN, 50);
        due("sort 6", x.does(0, 6, 1), BAD);
        due("sort -1", x.does(0, -1, 1), BAD);
        due("weight 0", x.does(0, 0, 0), BAD);
        due("weight 10", x.does(0, 0, 10), BAD);
        due("person 1", x.does(1, 0, 1), BAD);
        due("nothing was done", x.count(2), 0);
        due("nothing may be undone", x.count(8), 0);
        for (int k = 0; k < 10; k++) {
            due("deed " + k, x.does(0, k % 6, k % 9 + 1), k);
            x.days(1);
            due("its day", x.deed(k, 3), k);
        }
        due("an eleventh", x.does(0, 0, 1), FULL);
        due("a bad eleventh", x.does(0, 0, 0), BAD);
        due("deeds of it", x.of(0, 9), 1023);
    }

    private static void promise14Mend() {
        at("14 mend");
        TailorTape x = one(PLAIN);
        due("none", x.mend(0), BAD);
        x.does(0, THEFT, 9);
        x.does(0, BLOW, 1);
        due("deed -1", x.mend(-1), BAD);
        due("deed 2", x.mend(2), BAD);
        due("nine", x.mend(0), 4);
        due("one", x.mend(1), 0);
        due("again", x.mend(0), NOT);
        due("what may be undone", x.count(8), 4);
        due("sleeve", x.of(0, 0), 54);
        x.days(5);
        due("half of eight", x.of(0, 0), 54);
        x.days(5);
        due("half of seven", x.of(0, 0), 53);
    }

    private static void promise15Days() {
        at("15 days");
        TailorTape x = one(PLAIN);
        x.does(0, THEFT, 9);
        x.does(0, LIE, 2);
        due("four", x.days(4), 11);
        due("one", x.days(1), 9);
        due("six", x.days(6), 7);
        due("the day", x.count(3), 11);
        due("0", x.days(0), BAD);
        due("-1", x.days(-1), BAD);
        due("100", x.days(100), BAD);
        due("MOST", x.days(MOST), BAD);
        due("99", x.days(99), 0);
        x = new TailorTape();
        for (int k = 0; k < 101; k++) {
            x.days(99);
        }
        due("9999", x.count(3), 9999);
        due("one more", x.days(1), FULL);
        due("a bad one", x.days(100), BAD);
        due("a drift more", x.drift(1), FULL);
        due("a bad drift more", x.drift(0), BAD);
        x.undo();
        due("two more", x.days(2), FULL);
        due("two more by drift", x.drift(2), FULL);
        due("nothing went by", x.count(3), 9998);
        due("one more", x.days(1), 0);
    }

    private static void promise16Drift() {
        at("16 drift");
        due("0", new TailorTape().drift(0), BAD);
        due("100", new TailorTape().drift(100), BAD);
        for (int seed = 0; seed < 300; seed++) {
            driftLikeThis(seed * 7123457 & MOST, 1 + seed % 5, 1 + seed % 99);
        }
        TailorTape x = new TailorTape();
        TailorTape busy = one(PLAIN);
        busy.does(0, LIE, 1);
        int made = busy.drift(4);
        due("those before do not count", busy.count(2), 1 + made);
        due("nobody does a thing", x.drift(99), 0);
        due("the day", x.count(3), 99);
        long draw = 1;
        for (int k = 0; k < 99; k++) {
            draw = nextDraw(draw);
        }
        due("THE DRAW went on", x.seed(0), draw);
    }

    private static long nextDraw(long draw) {
        return (draw * 1103515245L + 12345L) % 2147483648L;
    }

    private static void driftLikeThis(int seed, int people, int n) {
        TailorTape x = new TailorTape();
        for (int p = 0; p < people; p++) {
            x.person(PLAIN, 50);
        }
        x.days(2);
        x.seed(seed);
        int made = x.drift(n);
        long draw = seed;
        int deed = 0;
        for (int k = 0; k < n; k++) {
            draw = nextDraw(draw);
            if (draw / 65536 % 3 == 0 && deed < 10) {
                due("who, seed " + seed, x.deed(deed, 0), draw / 65536 % people);
                due("sort, seed " + seed, x.deed(deed, 1), draw / 128 % 6);
                due("weight, seed " + seed, x.deed(deed, 2), 1 + draw / 1024 % 9);
                due("day, seed " + seed, x.deed(deed, 3), 2 + k);
                deed++;
            }
        }
        due("how many, seed " + seed, made, deed);
        due("all, seed " + seed, x.count(2), deed);
        due("day, seed " + seed, x.count(3), 2 + n);
        due("what may be undone, seed " + seed, x.count(8), Math.min(8, n + 2));
        due("THE DRAW, seed " + seed, x.seed(0), draw);
    }

    private static void promise17Undo() {
        at("17 undo");
        TailorTape x = one(PLAIN);
        due("none", x.undo(), NONE);
        x.does(0, THEFT, 5);
        x.mend(0);
        x.days(2);
        due("a day", x.undo(), 3);
        due("the day", x.count(3), 1);
        due("another", x.undo(), 2);
        due("mended", x.undo(), 1);
        due("it is not", x.deed(0, 4), 0);
        due("done", x.undo(), 0);
        due("no deed", x.count(2), 0);
        due("none more", x.undo(), NONE);
        x.days(99);
        due("eight are known", x.count(8), 8);
        for (int k = 7; k >= 0; k--) {
            due("undo to " + k, x.undo(), k);
        }
        due("none more", x.undo(), NONE);
        due("older ones are lost", x.count(3), 91);
        undoOfMended();
        undoOfWhatIsTold();
        undoOfDrift();
        whatLeavesNothingToUndo();
    }

    private static void undoOfMended() {
        TailorTape x = one(PLAIN);
        x.does(0, THEFT, 5);
        x.does(0, THEFT, 5);
        x.does(0, THEFT, 5);
        x.mend(1);
        x.mend(0);
        x.mend(2);
        due("all three", x.count(6), 7);
        x.undo();
        due("two", x.count(6), 3);
        x.undo();
        due("one", x.count(6), 2);
        x.undo();
        due("none", x.count(6), 0);
        due("three deeds", x.count(2), 3);
    }

    private static void undoOfWhatIsTold() {
        TailorTape x = one(PLAIN);
        x.suit(50);
        x.seed(77);
        x.does(0, THEFT, 5);
        x.seed(88);
        x.own(0, 0, 60);
        x.cut(0, 0, 70);
        x.rule(0, 9);
        x.rule(1, 8);
        due("the deed", x.undo(), 0);
        due("THE DRAW is as ahead of it", x.seed(1), 77);
        due("own stays", x.of(0, 0), 60);
        due("cut stays", x.cut(0, 0, 1), 70);
        due("fade stays", x.count(4), 9);
        due("ease stays", x.count(5), 8);
        x.does(0, LIE, 9);
        x.does(0, SLOTH, 8);
        x.undo();
        x.does(0, GREED, 7);
        due("another deed in its place", x.deed(1, 1), GREED);
        due("the first stays", x.deed(0, 1), LIE);
        x.mend(1);
        x.undo();
        x.undo();
        x.does(0, BLOW, 6);
        due("a new one is not mended", x.deed(1, 4), 0);
    }

    private static void undoOfDrift() {
        TailorTape x = one(PLAIN);
        x.seed(5);
        int made = x.drift(6);
        long after = x.seed(0);
        x.seed((int) after);
        for (int k = 5; k >= 0; k--) {
            due("drift undone to " + k, x.undo(), k);
        }
        due("no deeds", x.count(2), 0);
        due("day 0", x.count(3), 0);
        due("THE DRAW", x.seed(5), 5);
        due("drifts alike again", x.drift(6), made);
        due("THE DRAW again", x.seed(0), after);
    }

    private static void whatLeavesNothingToUndo() {
        TailorTape x = one(PLAIN);
        x.days(3);
        due("a bad person", x.person(0, 0), BAD);
        due("a bad suit", x.suit(-1), BAD);
        due("a bad wardrobe", tapes(x, "5;"), -22);
        due("three may be undone", x.count(8), 3);
        x.person(PLAIN, 50);
        due("a person leaves none", x.count(8), 0);
        due("none", x.undo(), NONE);
        x.days(3);
        x.suit(50);
        due("a suit leaves none", x.undo(), NONE);
        x.days(3);
        due("a wardrobe", tapes(x, "5;p10.10.10.10"), 1);
        due("leaves none", x.undo(), NONE);
    }

    private static void promise18Seed() {
        at("18 seed");
        TailorTape x = new TailorTape();
        due("at first", x.seed(0), 1);
        due("0", x.seed(MOST), 0);
        due("-1", x.seed(-1), BAD);
        due("LEAST", x.seed(LEAST), BAD);
        due("it stayed", x.seed(3), MOST);
        x.days(4);
        due("days leave it", x.seed(3), 3);
        x.drift(1);
        due("a drift does not", x.seed(3), (3L * 1103515245L + 12345L) % 2147483648L);
    }

    private static void promise19Ahead() {
        at("19 ahead");
        TailorTape x = one(TALL);
        x.does(0, THEFT, 2);
        x.does(0, TREASON, 1);
        x.days(3);
        due("now", x.ahead(0, 0, 0), 55);
        due("behind 1", x.ahead(0, 0, 1), 55);
        due("behind 2", x.ahead(0, 0, 2), 52);
        due("behind 6", x.ahead(0, 0, 6), 52);
        due("behind 7", x.ahead(0, 0, 7), 50);
        due("behind 99", x.ahead(0, 0, 99), 50);
        due("waist", x.ahead(0, 3, 1), 52);
        due("n 100", x.ahead(0, 0, 100), BAD);
        due("n -1", x.ahead(0, 0, -1), BAD);
        due("measure 4", x.ahead(0, 4, 0), BAD);
        due("measure -1", x.ahead(0, -1, 0), BAD);
        due("person 1", x.ahead(1, 0, 0), BAD);
        due("nothing changed", x.count(3), 3);
        due("what may be undone", x.count(8), 5);
    }

    private static void promise20ShowsAhead() {
        at("20 showsAhead");
        TailorTape x = one(PLAIN);
        x.suit(51);
        x.does(0, TREASON, 3);
        due("now", x.showsAhead(0, 0, 0), 8);
        due("behind 5", x.showsAhead(0, 0, 5), 4);
        due("behind 10", x.showsAhead(0, 0, 10), 0);
        due("behind 15", x.showsAhead(0, 0, 15), 4);
        due("behind 99", x.showsAhead(0, 0, 99), 4);
        due("n 100", x.showsAhead(0, 0, 100), BAD);
        due("n -1", x.showsAhead(0, 0, -1), BAD);
        due("person 1", x.showsAhead(1, 0, 0), BAD);
        due("suit 1", x.showsAhead(0, 1, 0), BAD);
        due("suit -1", x.showsAhead(0, -1, 0), BAD);
    }

    private static void promise21Again() {
        at("21 again");
        TailorTape x = one(PLAIN);
        x.suit(50);
        due("at once", x.again(0, 0), 0);
        x.does(0, THEFT, 4);
        due("from one on", x.again(0, 0), 15);
        x.rule(1, 0);
        due("from none on", x.again(0, 0), 20);
        x.days(3);
        due("three less", x.again(0, 0), 17);
        x.cut(0, 1, 49);
        due("never", x.again(0, 0), NONE);
        x.cut(0, 1, 50);
        x.rule(0, 30);
        due("behind more than 99", x.again(0, 0), NONE);
        x.rule(1, 1);
        due("behind 90 less 3", x.again(0, 0), 87);
        due("person 1", x.again(1, 0), BAD);
        due("suit 1", x.again(0, 1), BAD);
        x = one(PLAIN);
        x.suit(50);
        x.rule(1, 0);
        x.rule(0, 11);
        x.does(0, THEFT, 9);
        due("behind 99", x.again(0, 0), 99);
    }

    private static void promise22Wedding() {
        at("22 wedding");
        TailorTape x = one(PLAIN);
        x.person(PLAIN, 50);
        x.suit(50);
        due("none is needed", x.wedding(0, 0, 0, 0), 0);
        due("the empty set", x.wedding(0, 0, 0, 1), 0);
        x.does(1, THEFT, 9);
        x.does(0, THEFT, 2);
        x.does(0, BLOW, 2);
        x.does(0, THEFT, 4);
        due("none will do", x.wedding(0, 0, 0, 0), NONE);
        due("none, which", x.wedding(0, 0, 0, 1), NONE);
        x.rule(1, 6);
        due("one", x.wedding(0, 0, 0, 0), 1);
        due("the fourth alone", x.wedding(0, 0, 0, 1), 8);
        x.rule(1, 7);
        due("of like ones the least", x.wedding(0, 0, 0, 1), 2);
        x.rule(1, 5);
        due("two", x.wedding(0, 0, 0, 0), 2);
        due("the least two", x.wedding(0, 0, 0, 1), 10);
        x.rule(1, 4);
        due("three", x.wedding(0, 0, 0, 0), 3);
        due("which", x.wedding(0, 0, 0, 1), 14);
        due("later fewer", x.wedding(0, 0, 5, 0), 1);
        due("much later none", x.wedding(0, 0, 10, 1), 0);
        x.mend(3);
        due("one is mended already", x.wedding(0, 0, 0, 0), 2);
        due("the others", x.wedding(0, 0, 0, 1), 6);
        due("nothing changed", x.count(6), 8);
        x.undo();
        x.rule(1, 6);
        due("one of three", x.wedding(0, 0, 0, 1), 8);
        x.undo();
        due("one less, and none to mend", x.wedding(0, 0, 0, 0), 0);
        x.rule(1, 2);
        due("what is no more can't be mended", x.wedding(0, 0, 0, 0), 2);
        x.rule(1, 1);
        due("nor here", x.wedding(0, 0, 0, 0), NONE);
        x.cut(0, 0, 60);
        due("too wide a suit can't be mended", x.wedding(0, 0, 99, 0), NONE);
        due("n 100", x.wedding(0, 0, 100, 0), BAD);
        due("n -1", x.wedding(0, 0, -1, 0), BAD);
        due("what 2", x.wedding(0, 0, 0, 2), BAD);
        due("what -1", x.wedding(0, 0, 0, -1), BAD);
        due("person 2", x.wedding(2, 0, 0, 0), BAD);
        due("suit 1", x.wedding(0, 1, 0, 0), BAD);
        x = one(PLAIN);
        x.suit(60);
        x.cut(0, 0, 70);
        x.rule(1, 2);
        for (int k = 0; k < 10; k++) {
            x.does(0, k % 5, 9);
        }
        // three of the sleeve's four and both of each other one's are to be mended: all but the last blow
        due("nine of ten", x.wedding(0, 0, 0, 0), 9);
        due("all but one", x.wedding(0, 0, 0, 1), 1023 - 128);
    }

    private static void promise23BestCut() {
        at("23 bestCut");
        TailorTape x = one(PLAIN);
        due("as it is", x.bestCut(0, 0, 0, 0), 50);
        due("nothing", x.bestCut(0, 0, 40, 1), 0);
        x.does(0, THEFT, 4);
        due("now alone", x.bestCut(0, 0, 0, 0), 54);
        // 54 on five days, 53 on five: of like ones the least
        due("of like ones the least", x.bestCut(0, 0, 9, 0), 53);
        due("how much", x.bestCut(0, 0, 9, 1), 5);
        due("nine days", x.bestCut(0, 0, 8, 0), 54);
        due("how much of nine", x.bestCut(0, 0, 8, 1), 4);
        // 54, 53, 52, 51 on five days each, 50 on 21
        due("forty", x.bestCut(0, 0, 40, 0), 50);
        due("how much of forty", x.bestCut(0, 0, 40, 1), 50);
        due("another measure", x.bestCut(0, 1, 40, 0), 50);
        x = one(SEATED);
        for (int k = 0; k < 10; k++) {
            x.does(0, TREASON, 9);
        }
        due("above what can be cut", x.bestCut(0, 1, 0, 0), 199);
        due("how much above", x.bestCut(0, 1, 0, 1), 31);
        due("n 41", x.bestCut(0, 0, 41, 0), BAD);
        due("n -1", x.bestCut(0, 0, -1, 0), BAD);
        due("what 2", x.bestCut(0, 0, 0, 2), BAD);
        due("what -1", x.bestCut(0, 0, 0, -1), BAD);
        due("measure 4", x.bestCut(0, 4, 0, 0), BAD);
        due("person 1", x.bestCut(1, 0, 0, 0), BAD);
    }

    private static void promise24Wear() {
        at("24 wear");
        TailorTape x = new TailorTape();
        due("nobody", x.wear(NONE), 0);
        due("no such one", x.wear(0), BAD);
        x.person(PLAIN, 50);
        x.person(PLAIN, 51);
        x.person(PLAIN, 53);
        due("no suits", x.wear(NONE), 0);
        due("none", x.wear(0), NONE);
        x.suit(50);
        x.suit(49);
        x.suit(52);
        // 50 fits 0 and 1, 49 fits 0, 52 fits 1 and 2
        due("all three", x.wear(NONE), 3);
        due("0 leaves the first to 1", x.wear(0), 1);
        due("1", x.wear(1), 0);
        due("2", x.wear(2), 2);
        x.does(2, SLOTH, 5);
        due("two", x.wear(NONE), 2);
        due("0 has the first now", x.wear(0), 0);
        due("1 has the third", x.wear(1), 2);
        due("2 has none", x.wear(2), NONE);
        x.person(PLAIN, 50);
        due("another", x.wear(NONE), 3);
        due("0", x.wear(0), 0);
        due("1", x.wear(1), 2);
        due("3", x.wear(3), 1);
        due("not yet", tomorrow().wear(NONE), 0);
        due("4", x.wear(4), BAD);
        due("-1", x.wear(-1), BAD);
        due("-5", x.wear(-5), BAD);
        due("MOST", x.wear(MOST), BAD);
        due("fewer come", tapes(x, "5;p50.50.50.50;90.90.90.90"), 1);
        due("and nothing fits", x.wear(NONE), 0);
        due("not one", x.wear(0), NONE);
        due("two suits", tapes(x, "5;p50.50.50.50,p50.50.50.50;90.90.90.90,50.50.50.50"), 2);
        due("one fits", x.wear(NONE), 1);
        due("a suit less", tapes(x, "5;p50.50.50.50,p50.50.50.50;90.90.90.90"), 2);
        due("none fits", x.wear(NONE), 0);
        x = new TailorTape();
        x.suit(50);
        for (int k = 0; k < 5; k++) {
            x.person(PLAIN, 50);
        }
        due("one for five", x.wear(NONE), 1);
        due("the first has it", x.wear(0), 0);
        due("the last has not", x.wear(4), NONE);
    }

    private static void promise25Luck() {
        at("25 luck");
        TailorTape x = one(PLAIN);
        x.suit(50);
        due("sure, above", x.luck(0, 0, 0), 1);
        due("sure, below", x.luck(0, 0, 1), 1);
        x.cut(0, 0, 51);
        due("two of three, above", x.luck(0, 0, 0), 2);
        due("two of three, below", x.luck(0, 0, 1), 3);
        x.cut(0, 1, 48);
        due("and one of three, above", x.luck(0, 0, 0), 2);
        due("and one of three, below", x.luck(0, 0, 1), 9);
        x.cut(0, 2, 51);
        x.cut(0, 3, 49);
        due("8 of 81, above", x.luck(0, 0, 0), 8);
        due("8 of 81, below", x.luck(0, 0, 1), 81);
        x.cut(0, 3, 47);
        due("never, above", x.luck(0, 0, 0), 0);
        due("never, below", x.luck(0, 0, 1), 1);
        x.rule(1, 0);
        x.cut(0, 0, 50);
        x.cut(0, 1, 50);
        x.cut(0, 2, 50);
        x.cut(0, 3, 51);
        due("without ease, above", x.luck(0, 0, 0), 1);
        due("without ease, below", x.luck(0, 0, 1), 81);
        due("today, above", tomorrow().luck(0, 0, 0), 1);
        due("today, below", tomorrow().luck(0, 0, 1), 81);
        TailorTape easy = tomorrow();
        easy.rule(1, 1);
        due("two of three today, above", easy.luck(0, 0, 0), 2);
        due("two of three today, below", easy.luck(0, 0, 1), 3);
        x.does(0, SLOTH, 2);
        due("far off, above", x.luck(0, 0, 0), 0);
        due("what 2", x.luck(0, 0, 2), BAD);
        due("what -1", x.luck(0, 0, -1), BAD);
        due("person 1", x.luck(1, 0, 0), BAD);
        due("suit 1", x.luck(0, 1, 0), BAD);
    }

    private static void promise26Warrant() {
        at("26 warrant");
        TailorTape x = new TailorTape();
        due("nobody", x.warrant(1), 0);
        for (int kind = 0; kind < 5; kind++) {
            x.person(kind, 50);
            x.does(kind, TREASON, 4);
        }
        due("by 2", x.warrant(2), 31);
        due("by 4", x.warrant(4), 1 + 2 + 4 + 16);
        due("by 5", x.warrant(5), 2 + 4);
        due("by 8", x.warrant(8), 4);
        due("by 9", x.warrant(9), 0);
        due("by 99", x.warrant(99), 0);
        x.own(0, 0, 99);
        due("own does not count", x.warrant(5), 2 + 4);
        x.does(0, SLOTH, 1);
        due("any measure", x.warrant(5), 1 + 2 + 4);
        x.days(99);
        due("all is faded", x.warrant(1), 0);
        due("today, not tomorrow", tomorrow().warrant(1), 1);
        for (int sort = 0; sort < 5; sort++) {
            x = one(PLAIN);
            x.does(0, sort, 3);
            due("of sort " + sort, x.warrant(3), 1);
            due("no more of sort " + sort, x.warrant(4), 0);
        }
        due("by 0", x.warrant(0), BAD);
        due("by -1", x.warrant(-1), BAD);
        due("by 100", x.warrant(100), BAD);
    }

    private static void promise27And28Images() {
        at("27, 28 images");
        TailorTape x = one(WIDOW);
        due("none", x.restore(), NONE);
        x.suit(60);
        x.rule(0, 3);
        x.rule(1, 4);
        x.does(0, THEFT, 9);
        x.does(0, LIE, 8);
        x.mend(1);
        x.days(2);
        x.seed(1234);
        x.type('5');
        x.sheet(0, 2, 3);
        due("image", x.image(), 1);
        x.own(0, 0, 77);
        x.cut(0, 0, 78);
        x.undo();
        x.undo();
        x.undo();
        x.undo();
        x.does(0, GREED, 7);
        x.type(';');
        x.drop(0);
        x.sheet(1, 1, 4);
        due("restore", x.restore(), 1);
        due("the tape is not in it", x.type('p'), 3);
        String rest = "10.10.10.10,t11.11.11.11,s12.12.12.12,w13.13.13.13,h14.14.14.14;1.1.1.1,2.2.2.2";
        for (int k = 0; k < rest.length(); k++) {
            x.type(rest.charAt(k));
        }
        due("others come", x.wardrobe(), 5);
        restoredTwice(x);
    }

    private static void restoredTwice(TailorTape x) {
        due("restore", x.restore(), 1);
        int[] want = {1, 1, 2, 2, 3, 4, 2, 13, 5};
        for (int k = 0; k < want.length; k++) {
            due("count(" + k + ")", x.count(k), want[k]);
        }
        due("kind", x.of(0, 8), WIDOW);
        due("own", x.of(0, 4), 50);
        due("cut", x.cut(0, 0, 60), 60);
        due("THE DRAW", x.seed(1234), 1234);
        due("sort", x.deed(0, 1), THEFT);
        due("weight", x.deed(1, 2), 8);
        due("sheets are not in it", x.drop(0), NULL);
        due("sheets stay", x.drop(1), 4);
        due("a day undone", x.undo(), 4);
        x.undo();
        due("mended undone", x.undo(), 2);
        due("it is not mended", x.count(6), 0);
        x.undo();
        due("no deed", x.undo(), 0);
        due("none", x.count(2), 0);
        due("restore again", x.restore(), 1);
        due("deeds again", x.count(2), 2);
        x.restore();
        for (int k = 0; k < 5; k++) {
            x.undo();
        }
        x.rule(1, 9);
        x.days(50);
        for (int k = 0; k < 10; k++) {
            x.does(0, SLOTH, 1);
        }
        x.restore();
        int[][] deeds = {{0, THEFT, 9, 0, 0, 9}, {0, LIE, 8, 0, 1, 4}};
        for (int d = 0; d < 2; d++) {
            for (int k = 0; k < 6; k++) {
                due("deed(" + d + ", " + k + ")", x.deed(d, k), deeds[d][k]);
            }
        }
        due("ease", x.count(5), 4);
        due("undone once", x.undo(), 4);
        due("day 1", x.count(3), 1);
        due("undone twice", x.undo(), 3);
        due("day 0", x.count(3), 0);
        due("mended still", x.count(6), 2);
        x.restore();
        x.person(TALL, 40);
        due("a later image", x.image(), 1);
        x.person(TALL, 40);
        due("restore that", x.restore(), 1);
        due("two people", x.count(0), 2);
        x = one(PLAIN);
        x.person(PLAIN, 60);
        x.does(1, LIE, 1);
        x.days(1);
        x.does(0, THEFT, 1);
        x.image();
        x.undo();
        x.undo();
        x.undo();
        x.does(0, GREED, 1);
        x.does(1, GREED, 1);
        x.restore();
        due("who did the first", x.deed(0, 0), 1);
        due("who did the second", x.deed(1, 0), 0);
        due("when the second was done", x.deed(1, 3), 1);
    }

    private static void promise29Done() {
        at("29 done");
        TailorTape x = one(PLAIN);
        x.person(TALL, 50);
        x.person(SEATED, 50);
        x.person(WIDOW, 50);
        x.person(SAINT, 50);
        due("no sheet", x.done(0, 0, 2, 0, 0), NULL);
        x.sheet(0, 2, 6);
        row(x, 0, 2, 1, 9, 0, 9, 0);
        due("a lie, and a theft or a blow", x.done(0, 0, 2, 1, 0), 2);
        due("the first", x.done(0, 0, 2, 1, 1), 903);
        row(x, 0, 2, 1, 8, 4, 8, 4);
        due("treason, a lie, and a theft or a blow", x.done(0, 0, 2, 1, 0), 2);
        due("the first", x.done(0, 0, 2, 1, 1), 400 + 32 + 3);
        due("of one who is tall", x.done(1, 0, 2, 1, 1), 300 + 32 + 3);
        due("of a widow", x.done(3, 0, 2, 1, 1), 500 + 32 + 3);
        row(x, 0, 2, 1, 0, 6, 3, 3);
        due("of one who sits", x.done(2, 0, 2, 1, 0), 4);
        due("the first", x.done(2, 0, 2, 1, 1), 300 + 2 + 4 + 1 + 8);
        due("of a saint", x.done(4, 0, 2, 1, 0), 4 + 3);
        due("the first", x.done(4, 0, 2, 1, 1), 600 + 2 + 4 + 1 + 8);
        row(x, 0, 2, 1, 0, 0, 0, 0);
        due("nothing needs a sort", x.done(0, 0, 2, 1, 0), 0);
        due("none", x.done(0, 0, 2, 1, 1), NONE);
        row(x, 0, 2, 1, -1, 0, 0, 0);
        due("shorter", x.done(0, 0, 2, 1, 1), NONE);
        doneRefuses(x);
        doneOfLanes();
    }

    private static void doneRefuses(TailorTape x) {
        due("person 5", x.done(5, 0, 2, 0, 0), BAD);
        due("sheet 4", x.done(0, 4, 2, 0, 0), BAD);
        due("sheet -1", x.done(0, -1, 2, 0, 0), BAD);
        due("lane 4", x.done(0, 0, 4, 0, 0), BAD);
        due("lane -1", x.done(0, 0, -1, 0, 0), BAD);
        due("what 2", x.done(0, 0, 2, 0, 2), BAD);
        due("what -1 of a missing one", x.done(0, 1, 2, 0, -1), BAD);
        due("missing", x.done(0, 1, 3, -1, 0), NULL);
        due("another lane", x.done(0, 0, 3, -1, 0), CAST);
        due("i -1", x.done(0, 0, 2, -1, 0), INDEX);
        due("i 2", x.done(0, 0, 2, 2, 0), 0);
        due("i 3", x.done(0, 0, 2, 3, 0), INDEX);
        due("i MOST", x.done(0, 0, 2, MOST, 0), INDEX);
        due("i LEAST", x.done(0, 0, 2, LEAST, 0), INDEX);
        x.sheet(3, 0, 3);
        due("three items", x.done(0, 3, 0, 0, 0), INDEX);
    }

    private static void doneOfLanes() {
        TailorTape x = one(PLAIN);
        x.does(0, GREED, 9);
        x.days(5);
        for (int lane = 0; lane < 4; lane++) {
            x.sheet(lane, lane, 4);
            row(x, lane, lane, 0, 0, 0, 7, 0);
            due("a lie, whatever else is done, lane " + lane, x.done(0, lane, lane, 0, 1), 701);
        }
        x.item(3, 3, 2, 7L + (1L << 32));
        due("a long is taken whole", x.done(0, 3, 3, 0, 1), NONE);
        x.item(2, 2, 2, 7L + (1L << 32));
        due("an int is not", x.done(0, 2, 2, 0, 1), 701);
    }

    private static void promise30Film() {
        at("30 film");
        TailorTape x = new TailorTape();
        x.person(PLAIN, 10);
        x.person(TALL, 10);
        x.rule(0, 1);
        x.does(0, THEFT, 5);
        x.does(0, BLOW, 5);
        x.sheet(1, 1, 6);
        due("film", x.film(0, 0, 3, 1, 1, 2), 3);
        due("missing", x.film(0, 0, 3, 0, 1, 2), NULL);
        due("another lane", x.film(0, 0, 3, 1, 2, 99), CAST);
        due("too far", x.film(0, 1, 3, 1, 1, 4), INDEX);
        due("i -1", x.film(0, 1, 3, 1, 1, -1), INDEX);
        due("i MOST", x.film(0, 1, 3, 1, 1, MOST), INDEX);
        due("i LEAST", x.film(0, 1, 3, 1, 1, LEAST), INDEX);
        due("n 0", x.film(0, 0, 0, 1, 1, 0), BAD);
        due("n 25", x.film(0, 0, 25, 0, 1, 0), BAD);
        due("measure 4", x.film(0, 4, 1, 1, 1, 0), BAD);
        due("person 2", x.film(2, 0, 1, 1, 1, 0), BAD);
        due("sheet 4", x.film(0, 0, 1, 4, 1, 0), BAD);
        due("lane 4", x.film(0, 0, 1, 1, 4, 0), BAD);
        due("no day went by", x.count(3), 0);
        sees(x, 1, 1, 1, 0, 0, 18, 16, 14, 0);
        due("to the end", x.film(0, 0, 3, 1, 1, 3), 3);
        sees(x, 1, 1, 1, 0, 0, 18, 18, 16, 14);
        due("another measure", x.film(0, 3, 1, 1, 1, 0), 1);
        sees(x, 1, 1, 1, 10, 0, 18, 18, 16, 14);
        x.sheet(2, 3, 24);
        due("24 days", x.film(0, 0, 24, 2, 3, 0), 24);
        sees(x, 1, 2, 3, 18, 16, 14, 12, 10, 10, 10, 10, 10, 10, 10, 10, 10, 10, 10, 10, 10, 10, 10, 10, 10, 10, 10, 10);
        x = new TailorTape();
        x.person(SEATED, 80);
        x.person(TALL, 10);
        for (int k = 0; k < 10; k++) {
            x.does(0, TREASON, 9);
        }
        x.sheet(0, 0, 1);
        due("of 260 the lowest bits", x.film(0, 1, 1, 0, 0, 0), 1);
        sees(x, 1, 0, 0, 4);
    }

    /** Asks for each item of a sheet whether it is as wanted: 2 to 10, even ones to 20; 0 is like all others. */
    private static void sees(TailorTape x, int tall, int sheet, int lane, int... want) {
        for (int k = 0; k < want.length; k++) {
            x.sheet(3, lane, 4);
            due("copy of item " + k, x.copy(sheet, k, 3, 0, 1), 1);
            due("item " + k + " of sheet " + sheet, x.done(tall, 3, lane, 0, 1), wayTo(want[k]));
        }
        due("how many items", x.copy(sheet, want.length, 3, 0, 1), INDEX);
        x.drop(3);
    }

    /** How one who is tall comes to a sleeve longer by v first: by a theft and a blow, or by a theft. */
    private static int wayTo(int v) {
        if (v % 2 == 0 && v >= 4 && v <= 20) {
            return 100 * (v / 2 - 1) + 6;
        }
        return v >= 2 && v <= 10 ? 100 * (v - 1) + 2 : NONE;
    }

    private static void promise31Sheet() {
        at("31 sheet");
        TailorTape x = new TailorTape();
        for (int lane = 0; lane < 4; lane++) {
            due("lane " + lane, x.sheet(lane, lane, 24), 24);
        }
        due("empty", x.sheet(0, 3, 0), 0);
        due("n 25", x.sheet(1, 1, 25), BAD);
        due("n -1", x.sheet(1, 1, -1), SIZE);
        due("n LEAST", x.sheet(1, 1, LEAST), SIZE);
        due("n MOST", x.sheet(1, 1, MOST), BAD);
        due("sheet 4", x.sheet(4, 1, -1), BAD);
        due("sheet -1", x.sheet(-1, 1, 1), BAD);
        due("lane 4", x.sheet(1, 4, -1), BAD);
        due("lane -1", x.sheet(1, -1, 1), BAD);
        due("it stayed", x.drop(1), 24);
        due("the empty one", x.drop(0), 0);
        x.person(WIDOW, 50);
        x.sheet(2, 2, 4);
        row(x, 2, 2, 0, 1, 1, 1, 1);
        due("not nothing", x.done(0, 2, 2, 0, 0), 3);
        x.sheet(2, 2, 4);
        due("a new row is nothing", x.done(0, 2, 2, 0, 0), 63);
    }

    private static void promise32Drop() {
        at("32 drop");
        TailorTape x = new TailorTape();
        due("missing", x.drop(3), NULL);
        x.sheet(3, 0, 7);
        due("seven", x.drop(3), 7);
        due("it is missing", x.drop(3), NULL);
        due("sheet 4", x.drop(4), BAD);
        due("sheet -1", x.drop(-1), BAD);
    }

    private static void promise33Item() {
        at("33 item");
        TailorTape x = one(TALL);
        due("missing", x.item(0, 0, 0, 1), NULL);
        x.sheet(0, 0, 3);
        row(x, 0, 0, 0, 5, -249, 1000);
        sees(x, 0, 0, 0, 5, 7, 0);
        x.sheet(0, 1, 3);
        row(x, 0, 1, 0, 5, 0x10007L, 0x107L);
        sees(x, 0, 0, 1, 5, 7, 0);
        x.sheet(0, 2, 3);
        row(x, 0, 2, 0, 5, 0x7fffffff00000007L, 0x10007L);
        sees(x, 0, 0, 2, 5, 7, 0);
        x.sheet(0, 3, 3);
        row(x, 0, 3, 0, 5, Long.MIN_VALUE + 7, 0x100000007L);
        sees(x, 0, 0, 3, 5, 0, 0);
        due("i 3", x.item(0, 3, 3, 1), INDEX);
        due("i -1", x.item(0, 3, -1, 1), INDEX);
        due("i LEAST", x.item(0, 3, LEAST, 1), INDEX);
        due("another lane", x.item(0, 1, 3, 1), CAST);
        due("sheet 4", x.item(4, 0, 0, 1), BAD);
        due("sheet -1", x.item(-1, 0, 0, 1), BAD);
        due("lane 4", x.item(0, 4, 0, 1), BAD);
        due("lane -1", x.item(0, -1, 0, 1), BAD);
        sees(x, 0, 0, 3, 5, 0, 0);
        x.sheet(0, 0, 0);
        due("of an empty one", x.item(0, 0, 0, 1), INDEX);
    }

    private static void promise34Copy() {
        at("34 copy");
        TailorTape x = one(TALL);
        x.sheet(0, 1, 6);
        due("from a missing one", x.copy(1, 0, 0, 0, 1), NULL);
        due("to a missing one", x.copy(0, -1, 1, 0, 1), NULL);
        row(x, 0, 1, 0, 2, 3, 4, 5, 6, 7);
        due("to the right", x.copy(0, 0, 0, 2, 4), 4);
        sees(x, 0, 0, 1, 2, 3, 2, 3, 4, 5);
        due("to the left", x.copy(0, 2, 0, 1, 4), 4);
        sees(x, 0, 0, 1, 2, 2, 3, 4, 5, 5);
        x.sheet(1, 1, 3);
        due("to another", x.copy(0, 2, 1, 0, 3), 3);
        sees(x, 0, 1, 1, 3, 4, 5);
        due("one", x.copy(0, 0, 1, 1, 1), 1);
        sees(x, 0, 1, 1, 3, 2, 5);
        due("none", x.copy(0, 6, 1, 3, 0), 0);
        due("none from too far", x.copy(0, 7, 1, 3, 0), INDEX);
        due("none to too far", x.copy(0, 6, 1, 4, 0), INDEX);
        due("n -1", x.copy(0, 1, 1, 1, -1), INDEX);
        due("n LEAST", x.copy(0, 1, 1, 1, LEAST), INDEX);
        due("n MOST", x.copy(0, 1, 1, 1, MOST), INDEX);
        due("i MOST", x.copy(0, MOST, 1, 1, 1), INDEX);
        due("i -1", x.copy(0, -1, 1, 1, 1), INDEX);
        due("j -1", x.copy(0, 1, 1, -1, 1), INDEX);
        due("too many from", x.copy(1, 1, 0, 0, 3), INDEX);
        due("too many to", x.copy(0, 0, 1, 1, 3), INDEX);
        x.sheet(2, 2, 3);
        due("unlike lanes", x.copy(0, -1, 2, 0, -1), CAST);
        due("from 4", x.copy(4, 0, 0, 0, 1), BAD);
        due("from -1", x.copy(-1, 0, 0, 0, 1), BAD);
        due("to 4", x.copy(3, 0, 4, 0, 1), BAD);
        due("to -1", x.copy(0, 0, -1, 0, 1), BAD);
        sees(x, 0, 0, 1, 2, 2, 3, 4, 5, 5);
        sees(x, 0, 1, 1, 3, 2, 5);
        x.sheet(1, 1, 6);
        x.copy(0, 0, 1, 0, 6);
        x.item(0, 1, 0, 9);
        sees(x, 0, 1, 1, 2, 2, 3, 4, 5, 5);
    }
}
