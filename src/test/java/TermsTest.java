import java.math.BigInteger;

/** Each sentence of the document's terms, by its words: what is just within it, and what is just outside. */
public final class TermsTest extends Edges {
    private TermsTest() {
    }

    public static void main(String[] args) throws Exception {
        run(TermsTest.class, "What it is", "Terms");
    }

    // ---- what it is

    @Says("An object is used for at most 512 calls after it has been made; what later calls answer is free.")
    static void whatItIsCallsUpTo512() {
        TailorTape x = new TailorTape();
        for (int k = 0; k < 500; k++) {
            due("sheet " + k, x.sheet(k % 4, k % 3, 24), 24);
        }
        due("call 501", x.person(SAINT, 99), 0);
        for (int k = 0; k < 10; k++) {
            due("call " + (502 + k), x.does(0, TREASON, 9), k);
        }
        due("call 512", x.of(0, 1), 189);
    }

    @Says("The tailor takes the measure of it: in this town guilt shows on the tape, a sleeve longer by so much for each "
            + "wrong, so coats are warrants and an old suit is an alibi;")
    static void whatItIsGuiltOnTheTape() {
        TailorTape x = strict(PLAIN);
        x.person(PLAIN, 50);
        x.does(0, THEFT, 4);
        due("a wrong", x.of(0, 0), 54);
        x.does(0, BLOW, 3);
        due("another one", x.of(0, 0), 57);
        due("a warrant", x.warrant(7), 1);
        due("no alibi", x.tries(0, 0, 1), 0);
        due("an alibi", x.tries(1, 0, 1), 1);
    }

    @Says("people of kinds by what lengthens what on them, deeds that fade, mended ones, suits by their cut;")
    static void whatItIsPeopleDeedsSuits() {
        TailorTape x = new TailorTape();
        int[][] longer = {{54, 54, 54, 54}, {55, 55, 55, 55}, {50, 58, 54, 54}, {53, 53, 53, 53}, {50, 54, 52, 52}};
        for (int kind = PLAIN; kind <= SAINT; kind++) {
            x.person(kind, 50);
            x.does(kind, TREASON, 4);
            measures("kind " + kind, x, kind, longer[kind]);
        }
        due("they fade", x.days(5), 5 * 3);
        due("a mended one", x.mend(PLAIN), 1);
        measures("mended", x, PLAIN, 51, 51, 51, 51);
        x.suit(51);
        due("a suit by its cut", x.tries(PLAIN, 0, 0), 0);
        x.cut(0, 3, 60);
        due("by another cut", x.tries(PLAIN, 0, 0), 9);
    }

    @Says("day by day, by draws of deeds, undone;")
    static void whatItIsDayByDay() {
        TailorTape x = one(PLAIN);
        x.person(PLAIN, 50);
        x.days(1);
        x.seed(2);
        // 59559187, 1495354192, 671064393; by 65536: 908, 22817, 10239, of which by 3 the last alone leaves 0
        due("a draw on the third day", x.drift(3), 1);
        int[] want = {1, SLOTH, 2, 3, 0, 2};
        for (int k = 0; k < want.length; k++) {
            due("deed(0, " + k + ")", x.deed(0, k), want[k]);
        }
        due("undone", x.undo(), 3);
        counts("a day less, its deed too", x, 2, 0, 0, 3);
        due("its draw too", x.seed(0), 1495354192);
    }

    @Says({"how long what is when, what shows on whom, when a suit fits again;",
        "the fewest deeds to mend so that one fits for a wedding, the cut that shows least till then;"})
    static void whatItIsForetold() {
        TailorTape x = strict(PLAIN);
        x.rule(0, 2);
        x.does(0, THEFT, 2);
        x.does(0, THEFT, 4);
        due("how long", x.ahead(0, 0, 3), 54);
        due("what shows", x.showsAhead(0, 0, 5), 2);
        due("again", x.again(0, 0), 8);
        due("for a wedding, how many", x.wedding(0, 0, 6, 0), 1);
        due("for a wedding, which", x.wedding(0, 0, 6, 1), 2);
        // 56, 56, 54, 54, 52, 52, 51
        due("the cut till then", x.bestCut(0, 0, 6, 0), 54);
        due("shows least", x.bestCut(0, 0, 6, 1), 2 + 2 + 0 + 0 + 2 + 2 + 3);
    }

    @Says({"who should wear what;", "what one has done, by how much longer all is;", "how likely it fits, if the tape errs;",
        "wardrobes as texts; images; sheets that may be missing."})
    static void whatItIsAllElse() {
        TailorTape x = new TailorTape();
        due("a text", wardrobe(x, "5;p50.50.50.50,p52.52.52.52;51.51.51.51,50.50.50.50"), 2);
        due("an image", x.image(), 1);
        due("who should wear", x.wear(0), 1);
        due("what", x.wear(1), 0);
        due("how likely, above", x.luck(0, 0, 0), 16);
        due("how likely, below", x.luck(0, 0, 1), 81);
        due("a sheet that is missing", x.done(0, 0, 0, 0, 0), NULL);
        x.sheet(0, 0, 4);
        row(x, 0, 0, 3, 3, 6, 3);
        due("a treason and a lie of 3", x.done(0, 0, 0, 0, 1), 300 + 32 + 1);
        x.suit(99);
        due("as it was", x.restore(), 1);
        due("two suits", x.count(1), 2);
    }

    // ---- answers

    @Says({"Answers below 0,", "BAD -1 (a number is not as told, there is no such thing), NOT -2 (as told), FULL -3, "
            + "NONE -4 (as told), CAST -12 (of SHEETS another LANE);", "what the machine finds: NULL -11, INDEX -13, SIZE -14"})
    static void answersByTheirNumbers() {
        due("BAD", TailorTape.BAD, -1);
        due("NOT", TailorTape.NOT, -2);
        due("FULL", TailorTape.FULL, -3);
        due("NONE", TailorTape.NONE, -4);
        due("NULL", TailorTape.NULL, -11);
        due("CAST", TailorTape.CAST, -12);
        due("INDEX", TailorTape.INDEX, -13);
        due("SIZE", TailorTape.SIZE, -14);
        due("a number that is not as told", one(PLAIN).does(0, LIE, 10), -1);
        due("no such thing", one(PLAIN).does(1, LIE, 9), -1);
        due("mended already", busy().mend(1), -2);
        due("no room", full().person(PLAIN, 50), -3);
        due("none", empty().undo(), -4);
        due("no row", busy().item(2, 0, 0, 0), -11);
        due("another lane", busy().item(0, 0, 0, 0), -12);
        due("no such item", busy().item(0, 1, 5, 0), -13);
        due("no such length", busy().sheet(0, 1, -1), -14);
    }

    @Says("of several the first that a call names:")
    static void answersTheFirstThatACallNames() {
        refuses(Edges::full, BAD, "person", 5, 50);
        refuses(Edges::full, BAD, "person", 0, 100);
        refuses(Edges::full, BAD, "suit", 200);
        refuses(Edges::full, BAD, "does", 0, 0, 10);
        refuses(Edges::full, BAD, "does", 5, 0, 9);
        refuses(Edges::full, BAD, "days", 100);
        refuses(Edges::full, BAD, "drift", 0);
        refuses(Edges::fullTape, BAD, "type", 127);
        refuses(Edges::busy, BAD, "sheet", 4, 0, -1);
        refuses(Edges::busy, BAD, "sheet", 0, 4, -1);
        refuses(Edges::busy, BAD, "done", 3, 2, 0, -1, 0);
        refuses(Edges::busy, BAD, "done", 0, 2, 0, -1, 2);
        refuses(Edges::busy, BAD, "film", 0, 4, 1, 2, 0, -1);
        refuses(Edges::busy, BAD, "film", 0, 0, 25, 0, 0, -1);
        refuses(Edges::busy, BAD, "item", 2, 4, -1, 0);
        refuses(Edges::busy, BAD, "copy", 2, -1, 4, -1, -1);
        refuses(Edges::busy, BAD, "copy", -1, -1, 2, -1, -1);
    }

    @Says("(NULL, CAST, INDEX, SIZE in this order).")
    static void answersOfTheMachineInOrder() {
        refuses(Edges::busy, NULL, "done", 0, 2, 0, -1, 0);
        refuses(Edges::busy, CAST, "done", 0, 0, 0, -1, 0);
        refuses(Edges::busy, INDEX, "done", 0, 0, 1, -1, 0);
        refuses(Edges::busy, NULL, "film", 0, 0, 24, 2, 3, 99);
        refuses(Edges::busy, CAST, "film", 0, 0, 24, 0, 3, 99);
        refuses(Edges::busy, INDEX, "film", 0, 0, 24, 0, 1, 99);
        refuses(Edges::busy, NULL, "item", 2, 0, 24, 1);
        refuses(Edges::busy, CAST, "item", 0, 0, 24, 1);
        refuses(Edges::busy, INDEX, "item", 0, 1, 24, 1);
        refuses(Edges::busy, NULL, "copy", 0, 99, 2, 99, 99);
        refuses(Edges::busy, CAST, "copy", 0, 99, 1, 99, 99);
        refuses(Edges::busy, INDEX, "copy", 0, 99, 0, 99, 99);
        refuses(Edges::busy, SIZE, "sheet", 0, 1, -1);
    }

    @Says("What is refused changes nothing, but as told.")
    static void refusedChangesNothingButAsTold() {
        refuses(Edges::busy, NOT, "mend", 1);
        refuses(Edges::full, FULL, "person", 0, 50);
        refuses(Edges::full, FULL, "suit", 50);
        refuses(Edges::full, FULL, "does", 0, 0, 1);
        refuses(Edges::full, FULL, "days", 1);
        refuses(Edges::full, FULL, "drift", 1);
        refuses(Edges::fullTape, FULL, "type", 32);
        refuses(Edges::empty, NONE, "undo");
        refuses(Edges::empty, NONE, "restore");
        refuses(Edges::busy, NULL, "drop", 2);
        TailorTape x = busy();
        due("half a tape is no wardrobe", x.wardrobe(), -32);
        TailorTape y = busy();
        due("as told, the tape is empty then", x.type(' '), 1);
        due("one that was not asked", y.wardrobe(), -32);
        due("the same letter there", y.type(' '), 1);
        alike("all else stays", x, y);
        counts("all else stays", busyWithAFault(), 3, 2, 4, 4, 4, 2, 2, 22, 8);
    }

    private static TailorTape busyWithAFault() {
        TailorTape x = busy();
        x.wardrobe();
        return x;
    }

    @Says("Sets are bits.")
    static void setsAreBits() {
        TailorTape x = full();
        due("deeds of the last one", x.of(4, 9), 1 << 4 | 1 << 9);
        due("deeds of the first one", x.of(0, 9), 1 << 0 | 1 << 5);
        due("mended ones", x.count(6), 1 << 0 | 1 << 9);
        due("people of a warrant", x.warrant(1), 31);
        TailorTape ten = strict(PLAIN);
        for (int k = 0; k < 10; k++) {
            ten.does(0, THEFT, 1);
        }
        due("deeds to mend", ten.wedding(0, 0, 0, 1), 1023);
        ten.sheet(0, 0, 4);
        row(ten, 0, 0, 27, 18, 18, 18);
        due("sorts", ten.done(0, 0, 0, 0, 1), 963);
    }

    @Says("What is divided is cut.")
    static void dividedIsCut() {
        TailorTape x = one(SAINT);
        x.rule(0, 30);
        x.does(0, THEFT, 9);
        due("29 by 30", x.days(29), 9);
        due("30 by 30", x.days(1), 8);
        due("59 by 30", x.days(29), 8);
        due("60 by 30", x.days(1), 7);
        due("half of 7 on a saint", x.of(0, 1), 53);
        due("half of 7, mended", x.mend(0), 3);
        due("half of 3 on a saint", x.of(0, 1), 51);
        due("by 65536", drawn(3 * 65536 - 1, 5).count(2), 0);
        due("by 128", drawn(127, 5).deed(0, 1), 0);
        due("by 1024", drawn(1023, 5).deed(0, 2), 1);
    }

    // ---- 1

    @Says("MEASURES are 0 SLEEVE, 1 SEAT, 2 COLLAR, 3 WAIST.")
    static void measuresFrom0To3() {
        int[] shown = {2, 0, 0, 3, 1};
        for (int sort = LIE; sort <= SLOTH; sort++) {
            TailorTape x = one(PLAIN);
            x.does(0, sort, 7);
            for (int m = 0; m < 4; m++) {
                due("sort " + sort + " on measure " + m, x.of(0, m), m == shown[sort] ? 57 : 50);
            }
        }
        refuses(Edges::busy, BAD, "ahead", 0, 4, 0);
        refuses(Edges::busy, BAD, "ahead", 0, -1, 0);
    }

    @Says("PEOPLE 0 .. 4, as they come, are of a KIND, with their OWN MEASURES (10 .. 99 each).")
    static void peopleFrom0To4() {
        TailorTape x = new TailorTape();
        for (int p = 0; p < 5; p++) {
            due("there is none yet", x.of(p, 8), BAD);
            due("as they come", x.person(4 - p, 10 + p), p);
            due("kind", x.of(p, 8), 4 - p);
        }
        due("no person 5", x.of(5, 8), BAD);
        due("no person -1", x.of(-1, 8), BAD);
        for (int m = 0; m < 4; m++) {
            due("the least", x.own(4, m, 10), 14);
            due("the greatest", x.own(4, m, 99), 10);
            due("below", x.own(4, m, 9), BAD);
            due("above", x.own(4, m, 100), BAD);
            due("of each", x.of(4, 4 + m), 99);
            due("of no other one", x.of(3, 4 + m), 13);
        }
    }

    @Says("FADE is 1 .. 30 (5 at first), EASE 0 .. 9 (1 at first).")
    static void fadeAndEase() {
        TailorTape x = new TailorTape();
        due("FADE at first", x.rule(0, 1), 5);
        due("the least FADE", x.rule(0, 30), 1);
        due("the greatest FADE", x.rule(0, 30), 30);
        due("EASE at first", x.rule(1, 0), 1);
        due("the least EASE", x.rule(1, 9), 0);
        due("the greatest EASE", x.rule(1, 9), 9);
        refuses(Edges::busy, BAD, "rule", 0, 0);
        refuses(Edges::busy, BAD, "rule", 0, 31);
        refuses(Edges::busy, BAD, "rule", 1, -1);
        refuses(Edges::busy, BAD, "rule", 1, 10);
    }

    @Says("It is DAY 0 at first.")
    static void dayAtFirst() {
        due("day", new TailorTape().count(3), 0);
        TailorTape x = one(PLAIN);
        x.does(0, LIE, 1);
        due("of a first deed", x.deed(0, 3), 0);
    }

    @Says("SUITS 0 .. 3, as they come, have a CUT for each MEASURE (0 .. 199).")
    static void suitsFrom0To3() {
        TailorTape x = new TailorTape();
        for (int s = 0; s < 4; s++) {
            due("there is none yet", x.cut(s, 0, 0), BAD);
            due("as they come", x.suit(100 + s), s);
        }
        due("no suit 4", x.cut(4, 0, 0), BAD);
        due("no suit -1", x.cut(-1, 0, 0), BAD);
        for (int m = 0; m < 4; m++) {
            due("the least", x.cut(3, m, 0), 103);
            due("the greatest", x.cut(3, m, 199), 0);
            due("below", x.cut(3, m, -1), BAD);
            due("above", x.cut(3, m, 200), BAD);
            due("for each", x.cut(3, m, 5), 199);
            due("of no other one", x.cut(2, m, 5), 102);
        }
    }

    @Says("DEEDS 0 .. 9, as they come, are of a PERSON, of a SORT, of a WEIGHT (1 .. 9), of the DAY on which they were "
            + "done; MENDED or not.")
    static void deedsFrom0To9() {
        TailorTape x = one(PLAIN);
        x.person(TALL, 60);
        for (int d = 0; d < 10; d++) {
            due("there is none yet", x.deed(d, 0), BAD);
            due("as they come", x.does(d % 2, d % 6, 1 + d % 9), d);
            x.days(1);
        }
        due("no deed 10", x.deed(10, 0), BAD);
        due("no deed -1", x.deed(-1, 0), BAD);
        x.mend(8);
        for (int d = 0; d < 10; d++) {
            due("person of " + d, x.deed(d, 0), d % 2);
            due("sort of " + d, x.deed(d, 1), d % 6);
            due("weight of " + d, x.deed(d, 2), 1 + d % 9);
            due("day of " + d, x.deed(d, 3), d);
            due("mended or not: " + d, x.deed(d, 4), d == 8 ? 1 : 0);
        }
        refuses(Edges::busy, BAD, "does", 0, 0, 0);
        refuses(Edges::busy, BAD, "does", 0, 0, 10);
    }

    @Says("What is LEFT of one: WEIGHT, less how many DAYS ago it was by FADE (0 at least);")
    static void leftFadesTo0() {
        for (int fade : new int[] {1, 5, 30}) {
            for (int weight : new int[] {1, 9}) {
                TailorTape x = one(PLAIN);
                x.rule(0, fade);
                x.does(0, THEFT, weight);
                due("today", x.deed(0, 5), weight);
                for (int gone = 1; gone <= weight + 1; gone++) {
                    due("a day too early", fade == 1 ? weight - gone + 1 : x.days(fade - 1), Math.max(0, weight - gone + 1));
                    due("by FADE " + fade + " less " + gone, x.days(1), Math.max(0, weight - gone));
                }
                due("nothing, for ever", x.days(99), 0);
                due("nothing of it", x.deed(0, 5), 0);
            }
        }
    }

    @Says("half of that (cut), if it is MENDED.")
    static void leftOfMendedOnesIsHalf() {
        TailorTape x = one(PLAIN);
        x.rule(0, 1);
        for (int weight = 1; weight <= 9; weight++) {
            x.does(0, THEFT, weight);
            due("half of " + weight, x.mend(weight - 1), weight / 2);
        }
        int[] behindOne = {0, 0, 1, 1, 2, 2, 3, 3, 4};
        x.days(1);
        for (int d = 0; d < 9; d++) {
            due("half of what is left of deed " + d, x.deed(d, 5), behindOne[d]);
        }
    }

    @Says("SORTS tell on which MEASURES a DEED shows: 0 LIE: COLLAR. 1 THEFT: SLEEVE. 2 BLOW: SLEEVE. 3 GREED: WAIST. "
            + "4 SLOTH: SEAT. 5 TREASON: all four.")
    static void sortsFrom0To5() {
        int[][] shown = {{50, 50, 51, 50}, {51, 50, 50, 50}, {51, 50, 50, 50}, {50, 50, 50, 51}, {50, 51, 50, 50},
            {51, 51, 51, 51}};
        for (int sort = 0; sort < 6; sort++) {
            TailorTape x = one(PLAIN);
            x.does(0, sort, 1);
            measures("sort " + sort, x, 0, shown[sort]);
        }
        refuses(Edges::busy, BAD, "does", 0, -1, 1);
        refuses(Edges::busy, BAD, "does", 0, 6, 1);
    }

    @Says("By how much such a MEASURE is longer, by KIND of who did it (0, if nothing is LEFT):")
    static void longerByNothingIfNothingIsLeft() {
        for (int kind = PLAIN; kind <= SAINT; kind++) {
            TailorTape faded = one(kind);
            faded.does(0, TREASON, 1);
            faded.days(5);
            measures("faded, kind " + kind, faded, 0, 50, 50, 50, 50);
            TailorTape mended = one(kind);
            mended.does(0, TREASON, 1);
            mended.mend(0);
            measures("mended, kind " + kind, mended, 0, 50, 50, 50, 50);
        }
        TailorTape x = one(PLAIN);
        x.person(TALL, 50);
        x.does(1, THEFT, 1);
        measures("another one did it", x, 0, 50, 50, 50, 50);
        measures("by the kind of who did it", x, 1, 52, 50, 50, 50);
    }

    private static TailorTape treasonOf(int kind, int weight) {
        TailorTape x = one(kind);
        x.does(0, TREASON, weight);
        return x;
    }

    @Says("0 PLAIN: by what is LEFT.")
    static void longerOnPlain() {
        measures("least", treasonOf(PLAIN, 1), 0, 51, 51, 51, 51);
        measures("greatest", treasonOf(PLAIN, 9), 0, 59, 59, 59, 59);
    }

    @Says("Below it 1 TALL: by 1 more.")
    static void longerOnTall() {
        measures("least", treasonOf(TALL, 1), 0, 52, 52, 52, 52);
        measures("greatest", treasonOf(TALL, 9), 0, 60, 60, 60, 60);
        TailorTape x = treasonOf(TALL, 1);
        x.does(0, THEFT, 1);
        measures("of each deed", x, 0, 54, 52, 52, 52);
    }

    @Says("2 SEATED (below PLAIN): as PLAIN, but what would show on the SLEEVE shows on the SEAT (of a TREASON both).")
    static void longerOnSeated() {
        measures("least treason", treasonOf(SEATED, 1), 0, 50, 52, 51, 51);
        measures("greatest treason", treasonOf(SEATED, 9), 0, 50, 68, 59, 59);
        TailorTape x = one(SEATED);
        x.does(0, THEFT, 4);
        measures("theft", x, 0, 50, 54, 50, 50);
        x.does(0, BLOW, 3);
        measures("blow", x, 0, 50, 57, 50, 50);
        x.does(0, SLOTH, 2);
        measures("sloth", x, 0, 50, 59, 50, 50);
        x.does(0, LIE, 1);
        measures("lie", x, 0, 50, 59, 51, 50);
    }

    @Says("3 WIDOW (below TALL): by 2 less than TALL (0 at least).")
    static void longerOnWidow() {
        measures("0 at least", treasonOf(WIDOW, 1), 0, 50, 50, 50, 50);
        measures("just more", treasonOf(WIDOW, 2), 0, 51, 51, 51, 51);
        measures("greatest", treasonOf(WIDOW, 9), 0, 58, 58, 58, 58);
        TailorTape x = treasonOf(WIDOW, 2);
        x.days(9);
        measures("one is left", x, 0, 50, 50, 50, 50);
        x.days(1);
        measures("none is left, and no less than 0", x, 0, 50, 50, 50, 50);
    }

    @Says("4 SAINT (below SEATED): as SEATED, by half of it (cut).")
    static void longerOnSaint() {
        measures("least treason", treasonOf(SAINT, 1), 0, 50, 51, 50, 50);
        measures("3", treasonOf(SAINT, 3), 0, 50, 53, 51, 51);
        measures("greatest treason", treasonOf(SAINT, 9), 0, 50, 59, 54, 54);
        TailorTape x = one(SAINT);
        x.does(0, THEFT, 1);
        x.does(0, BLOW, 1);
        measures("each deed is cut by itself", x, 0, 50, 50, 50, 50);
        x.does(0, BLOW, 2);
        measures("two", x, 0, 50, 51, 50, 50);
    }

    @Says("A MEASURE of one is its OWN and all by which DEEDS make it longer.")
    static void measureIsOwnAndAllThatIsLonger() {
        TailorTape x = new TailorTape();
        x.person(TALL, 99);
        x.person(SEATED, 99);
        measures("no deed", x, 0, 99, 99, 99, 99);
        for (int k = 0; k < 10; k++) {
            x.does(0, TREASON, 9);
        }
        measures("ten deeds", x, 0, 199, 199, 199, 199);
        measures("none of another one's", x, 1, 99, 99, 99, 99);
        x.own(0, 2, 10);
        measures("another own", x, 0, 199, 199, 110, 199);
        TailorTape y = one(SEATED);
        y.own(0, 1, 99);
        for (int k = 0; k < 10; k++) {
            y.does(0, TREASON, 9);
        }
        measures("the longest seat", y, 0, 50, 279, 140, 140);
    }

    @Says("SHOWS of a SUIT on one: how far each MEASURE is from its CUT (either way), added.")
    static void showsEitherWay() {
        TailorTape x = new TailorTape();
        x.person(TALL, 10);
        x.suit(199);
        due("all too short", x.tries(0, 0, 0), 4 * 189);
        x.cut(0, 0, 0);
        x.cut(0, 1, 10);
        due("one too long, one as it is", x.tries(0, 0, 0), 10 + 0 + 189 + 189);
        x.suit(10);
        due("nothing", x.tries(0, 1, 0), 0);
        x.suit(0);
        for (int m = 0; m < 4; m++) {
            x.own(0, m, 99);
        }
        for (int k = 0; k < 10; k++) {
            x.does(0, TREASON, 9);
        }
        due("all too long", x.tries(0, 2, 0), 4 * 199);
        due("now too long for it", x.tries(0, 0, 0), 199 + 189 + 0 + 0);
    }

    @Says("It FITS, if none is farther than EASE.")
    static void fitsUpToEase() {
        for (int ease : new int[] {0, 1, 9}) {
            for (int m = 0; m < 4; m++) {
                TailorTape x = one(PLAIN);
                x.suit(50);
                x.rule(1, ease);
                int[] gaps = {0, ease, -ease, ease + 1, -ease - 1};
                for (int k = 0; k < gaps.length; k++) {
                    x.cut(0, m, 50 + gaps[k]);
                    due("ease " + ease + ", measure " + m + " by " + gaps[k], x.tries(0, 0, 1), k < 3 ? 1 : 0);
                }
            }
        }
        TailorTape x = one(PLAIN);
        x.suit(51);
        due("all four by ease, though they add up", x.tries(0, 0, 1), 1);
    }

    // ---- 2

    @Says({"FORETOLD from now (nothing is changed):", "behind n DAYS (0 .. 99) a MEASURE of one; SHOWS of a SUIT on one."})
    static void foretoldChangesNothing() {
        for (int n : new int[] {0, 1, 40, 99}) {
            onlyLooks(Edges::busy, "ahead", 0, 0, n);
            onlyLooks(Edges::busy, "showsAhead", 1, 1, n);
            onlyLooks(Edges::busy, "wedding", 0, 0, n, 1);
            onlyLooks(Edges::busy, "bestCut", 1, 3, n % 41, 1);
        }
        onlyLooks(Edges::busy, "again", 1, 1);
        onlyLooks(Edges::busy, "wear", NONE);
        onlyLooks(Edges::busy, "wear", 2);
        onlyLooks(Edges::busy, "luck", 0, 0, 1);
        onlyLooks(Edges::busy, "warrant", 1);
        refuses(Edges::busy, BAD, "ahead", 0, 0, -1);
        refuses(Edges::busy, BAD, "ahead", 0, 0, 100);
        refuses(Edges::busy, BAD, "showsAhead", 0, 0, -1);
        refuses(Edges::busy, BAD, "showsAhead", 0, 0, 100);
        TailorTape last = full();
        due("behind the last day", last.ahead(3, 3, 99), 53);
        last.rule(0, 30);
        // person 1 is tall: a theft of 8 and a treason of 2 (the seventh deed is a lie of person 1)
        due("now", last.ahead(1, 0, 0), 51 + 9);
        due("three fades on, past the last day", last.ahead(1, 0, 99), 51 + 6);
    }

    @Says("AGAIN: the first of 0 to 99 DAYS behind which a SUIT FITS one; none.")
    static void againFrom0To99() {
        TailorTape x = strict(PLAIN);
        due("0", x.again(0, 0), 0);
        x.does(0, THEFT, 9);
        x.rule(0, 11);
        due("99", x.again(0, 0), 99);
        TailorTape y = strict(PLAIN);
        y.does(0, THEFT, 4);
        y.rule(0, 25);
        due("100 is none", y.again(0, 0), NONE);
        y.days(1);
        due("99 from tomorrow on", y.again(0, 0), 99);
        y.cut(0, 0, 53);
        due("the first of 25", y.again(0, 0), 24);
        y.cut(0, 3, 49);
        due("never", y.again(0, 0), NONE);
    }

    @Says("WEDDING: the fewest DEEDS of one, not MENDED yet, MENDED now, so that a SUIT FITS it behind n DAYS (0 .. 99),")
    static void weddingFewest() {
        TailorTape x = strict(PLAIN);
        x.person(PLAIN, 50);
        due("none is needed", x.wedding(0, 0, 0, 0), 0);
        x.rule(1, 4);
        x.does(0, THEFT, 2);
        x.does(0, THEFT, 2);
        x.does(0, THEFT, 4);
        x.does(1, THEFT, 9);
        x.rule(1, 6);
        due("one", x.wedding(0, 0, 0, 0), 1);
        due("fewer before the lesser set", x.wedding(0, 0, 0, 1), 4);
        x.rule(1, 4);
        due("all of its own, none of another one's", x.wedding(0, 0, 0, 1), 7);
        x.rule(1, 3);
        due("none will do", x.wedding(0, 0, 0, 0), NONE);
        due("later", x.wedding(0, 0, 5, 1), 4);
        due("last", x.wedding(0, 0, 99, 1), 0);
        x.mend(2);
        due("that is mended already", x.wedding(0, 0, 5, 1), 0);
        x.rule(1, 2);
        due("but no more now", x.wedding(0, 0, 0, 0), NONE);
        refuses(Edges::busy, BAD, "wedding", 0, 0, -1, 0);
        refuses(Edges::busy, BAD, "wedding", 0, 0, 100, 0);
    }

    @Says("of like ones the least set (of DEEDS): how many; which; none.")
    static void weddingLeastSet() {
        TailorTape x = strict(PLAIN);
        for (int k = 0; k < 10; k++) {
            x.does(0, k % 2 == 0 ? THEFT : LIE, 2);
        }
        x.rule(1, 9);
        // ten and ten: one theft and one lie
        due("how many", x.wedding(0, 0, 0, 0), 2);
        due("the least", x.wedding(0, 0, 0, 1), 3);
        x.mend(0);
        due("one is mended", x.wedding(0, 0, 0, 1), 2);
        x.rule(1, 5);
        due("all others", x.wedding(0, 0, 0, 1), 1022);
        x.rule(1, 4);
        due("none", x.wedding(0, 0, 0, 1), NONE);
        due("none, how many", x.wedding(0, 0, 0, 0), NONE);
    }

    @Says({"CUT: the number (0 .. 199) for a MEASURE of one by which how far that is from it, added up over now and each "
            + "of the next n DAYS (0 .. 40), is least,", "how much."})
    static void cutUpTo199() {
        TailorTape x = new TailorTape();
        x.person(PLAIN, 10);
        due("the least that is worn", x.bestCut(0, 0, 40, 0), 10);
        x = new TailorTape();
        x.person(TALL, 99);
        x.rule(0, 30);
        for (int k = 0; k < 10; k++) {
            x.does(0, THEFT, 9);
        }
        due("just 199", x.bestCut(0, 0, 29, 0), 199);
        due("and as it is", x.bestCut(0, 0, 29, 1), 0);
        due("11 days of 189", x.bestCut(0, 0, 40, 1), 110);
        x = new TailorTape();
        x.person(SEATED, 99);
        x.rule(0, 30);
        for (int k = 0; k < 10; k++) {
            x.does(0, TREASON, 9);
        }
        due("not above 199", x.bestCut(0, 1, 40, 0), 199);
        due("30 days of 279, 11 of 259", x.bestCut(0, 1, 40, 1), 30 * 80 + 11 * 60);
        refuses(Edges::busy, BAD, "bestCut", 0, 0, -1, 0);
        refuses(Edges::busy, BAD, "bestCut", 0, 0, 41, 0);
    }

    @Says("of like ones the least;")
    static void cutOfLikeOnesTheLeast() {
        TailorTape x = one(PLAIN);
        x.rule(0, 1);
        x.does(0, THEFT, 9);
        due("59", x.bestCut(0, 0, 0, 0), 59);
        due("59, 58", x.bestCut(0, 0, 1, 0), 58);
        due("59, 58: how much", x.bestCut(0, 0, 1, 1), 1);
        due("59, 58, 57", x.bestCut(0, 0, 2, 0), 58);
        due("59 to 56", x.bestCut(0, 0, 3, 0), 57);
        due("59 to 56: how much", x.bestCut(0, 0, 3, 1), 4);
        x.does(0, THEFT, 1);
        // 60, 58: as far from each between them
        due("60, 58", x.bestCut(0, 0, 1, 0), 58);
        due("60, 58: how much", x.bestCut(0, 0, 1, 1), 2);
    }

    @Says({"WEAR: SUITS for PEOPLE, each at most one, no two the same, each FITTING now: so that most have one,",
        "how many; one's SUIT; none."})
    static void wearMost() {
        TailorTape x = new TailorTape();
        due("nobody", x.wear(NONE), 0);
        for (int p = 0; p < 5; p++) {
            x.person(PLAIN, 50);
        }
        due("no suit", x.wear(NONE), 0);
        due("none", x.wear(4), NONE);
        for (int s = 0; s < 4; s++) {
            x.suit(50);
            due("no two the same", x.wear(NONE), s + 1);
            due("the last to have one", x.wear(s), s);
            due("no more", x.wear(s + 1), NONE);
        }
        x.does(0, THEFT, 2);
        due("fits but later", x.again(0, 0), 5);
        due("so not now", x.wear(0), NONE);
        due("the others", x.wear(4), 3);
        TailorTape more = one(PLAIN);
        more.person(PLAIN, 50);
        for (int s = 0; s < 4; s++) {
            more.suit(50);
        }
        due("more suits than people", more.wear(NONE), 2);
        due("the first suit", more.wear(0), 0);
        due("the second suit", more.wear(1), 1);
    }

    @Says("of like ones the first (PEOPLE in order; SUITS in order, none behind all):")
    static void wearOfLikeOnesTheFirst() {
        TailorTape x = new TailorTape();
        x.person(PLAIN, 50);
        x.person(PLAIN, 52);
        x.suit(51);
        due("none behind all", x.wear(0), 0);
        due("the other has none", x.wear(1), NONE);
        x.suit(51);
        due("suits in order", x.wear(0), 0);
        due("the second", x.wear(1), 1);
        x.cut(0, 0, 53);
        // the first suit fits 1 alone now
        due("what fits", x.wear(0), 1);
        due("the other", x.wear(1), 0);
        x.cut(0, 0, 51);
        x.cut(1, 0, 49);
        // the second suit fits 0 alone: so that both have one
        due("most before order", x.wear(0), 1);
        due("both", x.wear(NONE), 2);
    }

    @Says("TAPE: each MEASURE is read 1 less, as it is, or 1 more, each as likely, apart: how likely a SUIT FITS one by "
            + "that: a fraction in lowest terms.")
    static void tapeInLowestTerms() {
        for (int ease : new int[] {1, 9}) {
            int[][] likely = {{0, 1, 1}, {ease - 1, 1, 1}, {ease, 2, 3}, {ease + 1, 1, 3}, {ease + 2, 0, 1}};
            for (int[] one : likely) {
                luckBy(ease, one[0], one[1], one[2]);
                luckBy(ease, -one[0], one[1], one[2]);
            }
        }
        TailorTape x = strict(PLAIN);
        due("no ease, above", x.luck(0, 0, 0), 1);
        due("no ease, below", x.luck(0, 0, 1), 81);
        x.cut(0, 0, 49);
        due("1 off, above", x.luck(0, 0, 0), 1);
        due("1 off, below", x.luck(0, 0, 1), 81);
        x.cut(0, 0, 48);
        due("2 off, above", x.luck(0, 0, 0), 0);
        due("2 off, below", x.luck(0, 0, 1), 1);
        TailorTape y = one(PLAIN);
        y.suit(51);
        due("all four by ease, above", y.luck(0, 0, 0), 16);
        due("all four by ease, below", y.luck(0, 0, 1), 81);
    }

    private static void luckBy(int ease, int gap, int above, int below) {
        TailorTape x = one(PLAIN);
        x.suit(50);
        x.rule(1, ease);
        x.cut(0, 2, 50 + gap);
        due("ease " + ease + " by " + gap + ", above", x.luck(0, 0, 0), above);
        due("ease " + ease + " by " + gap + ", below", x.luck(0, 0, 1), below);
    }

    @Says("WARRANT: PEOPLE (a set) of whom a MEASURE is longer than OWN by n (1 .. 99) or more.")
    static void warrantFrom1To99() {
        TailorTape x = one(PLAIN);
        x.person(TALL, 99);
        due("nobody did a thing", x.warrant(1), 0);
        for (int k = 0; k < 9; k++) {
            x.does(1, THEFT, 9);
        }
        due("90", x.warrant(90), 2);
        due("not 91", x.warrant(91), 0);
        x.does(1, THEFT, 8);
        due("99", x.warrant(99), 2);
        x.undo();
        x.does(1, THEFT, 7);
        due("98", x.warrant(98), 2);
        due("not 99", x.warrant(99), 0);
        x.undo();
        x.does(0, LIE, 1);
        due("both by 1", x.warrant(1), 3);
        due("one by 2", x.warrant(2), 2);
        refuses(Edges::busy, BAD, "warrant", 0);
        refuses(Edges::busy, BAD, "warrant", 100);
    }

    // ---- 3

    private static int[] done(int kind, long... longer) {
        TailorTape x = one(kind);
        x.sheet(0, 3, 4);
        row(x, 0, 3, longer);
        return new int[] {x.done(0, 0, 3, 0, 0), x.done(0, 0, 3, 0, 1)};
    }

    private static void ways(String what, int[] got, int ways, int first) {
        due(what + ", how many", got[0], ways);
        due(what + ", the first", got[1], first);
    }

    @Says({"DONE: a row tells by how much each MEASURE of one is longer than OWN (four items): SORTS (a set, at least one) "
            + "that, one DEED of each done today, all of one WEIGHT, not MENDED, nothing else being done, would make it so:",
        "how many ways (a set and a WEIGHT); the first (by WEIGHT, then by set: 100 WEIGHT and the set); none."})
    static void doneFromTheLeastToTheGreatest() {
        ways("the least", done(PLAIN, 0, 0, 1, 0), 1, 101);
        ways("the greatest", done(PLAIN, 27, 18, 18, 18), 1, 963);
        ways("one more than that", done(PLAIN, 28, 18, 18, 18), 0, NONE);
        ways("at least one sort", done(PLAIN, 0, 0, 0, 0), 0, NONE);
        ways("any sorts that don't show", done(WIDOW, 0, 0, 0, 0), 63, 101);
        ways("a saint's, none of them treason", done(SAINT, 0, 0, 0, 0), 31, 101);
        // a treason of 1 with whatever else does not show, or a theft, a blow, a sloth of 2 or of 3
        ways("a saint's treason", done(SAINT, 0, 1, 0, 0), 32 + 6, 132);
        ways("by weight, then by set", done(PLAIN, 4, 0, 0, 0), 3, 206);
        ways("by set", done(PLAIN, 9, 0, 0, 0), 2, 902);
        ways("the tallest", done(TALL, 30, 20, 20, 20), 1, 963);
        ways("the tallest less one", done(TALL, 29, 20, 20, 20), 0, NONE);
        ways("a tall one's least is 2", done(TALL, 0, 0, 1, 0), 0, NONE);
        ways("seated", done(SEATED, 0, 45, 18, 18), 1, 963);
        ways("shorter", done(PLAIN, 0, 0, -1, 0), 0, NONE);
        ways("far", done(PLAIN, Long.MAX_VALUE, Long.MIN_VALUE, 1L << 32, -(1L << 32)), 0, NONE);
        TailorTape x = busy();
        x.sheet(2, 0, 4);
        row(x, 2, 0, 0, 5, 0, 0);
        due("nothing else being done", x.done(0, 2, 0, 0, 1), 516);
        x.days(99);
        due("today", x.done(0, 2, 0, 0, 1), 516);
    }

    @Says("UNDONE: the latest DAY, DEED done, MENDED is as it had not been (8 are known, older ones lost):")
    static void undoneUpTo8() {
        TailorTape x = one(PLAIN);
        x.does(0, THEFT, 9);
        x.mend(0);
        x.days(6);
        due("8 are known", x.count(8), 8);
        for (int k = 7; k >= 2; k--) {
            due("a day", x.undo(), k);
            due("the day", x.count(3), k - 2);
        }
        due("mended", x.undo(), 1);
        due("not mended", x.count(6), 0);
        due("done", x.undo(), 0);
        due("not done", x.count(2), 0);
        due("none", x.undo(), NONE);
        TailorTape y = one(PLAIN);
        y.does(0, THEFT, 9);
        y.mend(0);
        y.days(7);
        due("8 are known", y.count(8), 8);
        for (int k = 7; k >= 0; k--) {
            due("one", y.undo(), k);
        }
        due("the ninth is lost", y.undo(), NONE);
        due("so it stays done", y.count(2), 1);
        due("not mended", y.count(6), 0);
        y.days(99);
        due("8 of 99", y.count(8), 8);
        y.drift(99);
        due("8 of 198", y.count(8), 8);
        TailorTape z = full();
        due("the latest mended of two", z.undo(), 7);
        due("the other stays", z.count(6), 1 << 9);
        due("that one", z.undo(), 6);
        due("none is mended", z.count(6), 0);
        due("the latest deed", z.undo(), 5);
        due("nine stay", z.count(2), 9);
    }

    @Says("DEEDS, the DAY, THE DRAW are as ahead of it, whatever was told since;")
    static void undoneAsAheadOfIt() {
        TailorTape x = one(PLAIN);
        x.suit(50);
        x.seed(11);
        x.does(0, THEFT, 9);
        x.seed(22);
        x.days(1);
        x.seed(33);
        x.mend(0);
        x.seed(44);
        x.own(0, 0, 99);
        x.cut(0, 0, 199);
        x.rule(0, 30);
        x.rule(1, 9);
        due("mended", x.undo(), 2);
        due("THE DRAW as ahead of it", x.seed(55), 33);
        due("the day", x.undo(), 1);
        due("THE DRAW as ahead of it", x.seed(66), 22);
        due("day 0", x.count(3), 0);
        due("the deed", x.undo(), 0);
        due("THE DRAW as ahead of it", x.seed(77), 11);
        counts("what was told stays", x, 1, 1, 0, 0, 30, 9, 0, 0, 0);
        due("own stays", x.of(0, 0), 99);
        due("cut stays", x.cut(0, 0, 0), 199);
        TailorTape y = drawn(0, 1);
        due("a day of a drift", y.undo(), 0);
        counts("and its deed", y, 1, 0, 0, 0);
        due("and its draw", y.seed(0), seedFor(0));
    }

    @Says("a WARDROBE, a new PERSON, SUIT leave nothing to be UNDONE.")
    static void undoneNothingBehindThese() {
        TailorTape x = one(PLAIN);
        x.days(9);
        due("a person that is refused", x.person(PLAIN, 9), BAD);
        due("a suit that is refused", x.suit(200), BAD);
        due("a wardrobe with a fault", wardrobe(x, "5"), -21);
        due("leave all", x.count(8), 8);
        x.person(PLAIN, 50);
        due("a person", x.undo(), NONE);
        due("the days stay", x.count(3), 9);
        x.days(1);
        x.suit(50);
        due("a suit", x.undo(), NONE);
        x.days(1);
        due("a wardrobe", wardrobe(x, "5;p10.10.10.10"), 1);
        due("leaves none", x.undo(), NONE);
        due("none", x.count(8), 0);
    }

    private static final long FACTOR = 1103515245L, BITS = 1L << 31;

    /** The seed from which THE DRAW becomes v next. */
    private static int seedFor(long v) {
        BigInteger bits = BigInteger.valueOf(BITS);
        BigInteger back = BigInteger.valueOf(FACTOR).modInverse(bits);
        return BigInteger.valueOf(v - 12345).multiply(back).mod(bits).intValue();
    }

    /** A shop that drifted one day by a draw of v. */
    private static TailorTape drawn(long v, int people) {
        TailorTape x = new TailorTape();
        for (int p = 0; p < people; p++) {
            x.person(PLAIN, 50);
        }
        x.seed(seedFor(v));
        x.drift(1);
        due("THE DRAW", x.seed((int) v), v);
        return x;
    }

    @Says({"DRIFT by a seed: THE DRAW is a number of 31 bits (1 at first);",
        "ahead of each DAY of a DRIFT it becomes the lowest 31 bits of itself times 1103515245 and 12345 more:"})
    static void driftOf31Bits() {
        due("1 at first", new TailorTape().seed(MOST), 1);
        int[][] next = {{0, 12345}, {1, 1103527590}, {MOST, 1043980748}, {1 << 30, 1073754169}};
        for (int[] one : next) {
            TailorTape x = new TailorTape();
            x.seed(one[0]);
            x.drift(1);
            due("from " + one[0], x.seed(0), one[1]);
        }
        TailorTape x = new TailorTape();
        x.drift(99);
        BigInteger draw = BigInteger.ONE;
        for (int k = 0; k < 99; k++) {
            draw = draw.multiply(BigInteger.valueOf(FACTOR)).add(BigInteger.valueOf(12345)).mod(BigInteger.valueOf(BITS));
        }
        due("behind 99", x.seed(0), draw.intValue());
        due("the greatest", drawn(BITS - 1, 1).seed(0), MOST);
    }

    @Says("if it by 65536, left over by 3, is 0, and there is room for a DEED, one is done then:")
    static void driftDoesADeedOrNot() {
        long[][] draws = {{0, 1}, {65535, 1}, {65536, 0}, {3 * 65536 - 1, 0}, {3 * 65536, 1}, {4 * 65536 - 1, 1},
            {4 * 65536, 0}, {32766L * 65536 - 1, 0}, {32766L * 65536, 1}, {32767L * 65536 - 1, 1}, {32767L * 65536, 0},
            {BITS - 1, 0}};
        for (long[] one : draws) {
            due("by a draw of " + one[0], drawn(one[0], 5).count(2), one[1]);
        }
        TailorTape x = one(PLAIN);
        for (int k = 0; k < 9; k++) {
            x.does(0, LIE, 1);
        }
        x.days(7);
        x.seed(seedFor(0));
        due("room for one", x.drift(1), 1);
        due("done then, ahead of the day", x.deed(9, 3), 7);
        due("the day", x.count(3), 8);
        x.seed(seedFor(0));
        due("no room", x.drift(1), 0);
        due("the draw goes on", x.seed(1), 0);
        due("the day goes on", x.count(3), 9);
    }

    @Says("by PERSON it by 65536, left over by how many there are, of SORT it by 128, left over by 6, of WEIGHT 1 and it "
            + "by 1024, left over by 9 (none, if there are no PEOPLE).")
    static void driftWhoDoesWhat() {
        long[][] deeds = {{0, 5, 0, 0, 1}, {65535, 5, 0, 1, 1}, {640, 5, 0, 5, 1}, {767, 5, 0, 5, 1}, {768, 5, 0, 0, 1},
            {8192, 5, 0, 4, 9}, {9215, 5, 0, 5, 9}, {9216, 5, 0, 0, 1}, {196608, 5, 3, 0, 4}, {196608, 4, 3, 0, 4},
            {196608, 3, 0, 0, 4}, {196608, 2, 1, 0, 4}, {196608, 1, 0, 0, 4}, {2147418111, 5, 1, 1, 7}};
        for (long[] deed : deeds) {
            TailorTape x = drawn(deed[0], (int) deed[1]);
            String what = deed[0] + " by " + deed[1];
            due("person of " + what, x.deed(0, 0), deed[2]);
            due("sort of " + what, x.deed(0, 1), deed[3]);
            due("weight of " + what, x.deed(0, 2), deed[4]);
        }
        TailorTape x = drawn(0, 0);
        due("no people", x.count(2), 0);
        due("the day", x.count(3), 1);
    }

    // ---- wardrobes

    @Says("A WARDROBE is a TEXT: a number 1 .. 30 (FADE);")
    static void wardrobeFadeFrom1To30() {
        String rest = ";p10.10.10.10";
        int[][] fades = {{1, 1}, {30, 1}, {0, -20}, {31, -20}, {999, -20}};
        for (int[] fade : fades) {
            TailorTape x = busy();
            x.wardrobe();
            due("fade " + fade[0], wardrobe(x, fade[0] + rest), fade[1]);
            due("fade is", x.count(4), fade[1] == 1 ? fade[0] : 4);
        }
        due("no number", wardrobe(empty(), rest), -20);
        due("nothing", wardrobe(empty(), ""), -20);
    }

    @Says({"then ; and 1 to 5 PEOPLE with , between: p t s w h (KINDS in this order), four numbers 10 .. 99 with . between "
            + "(OWN MEASURES);"})
    static void wardrobeOfOneToFivePeople() {
        String text = "5;";
        for (int p = 0; p < 5; p++) {
            text += (p == 0 ? "" : ",") + "ptswh".charAt(4 - p) + "10.11.98.99";
            TailorTape x = new TailorTape();
            due("people", wardrobe(x, text), p + 1);
            due("kind", x.of(p, 8), 4 - p);
            measures("own", x, p, 10, 11, 98, 99);
        }
        due("nobody", wardrobe(empty(), "5;"), -22);
        due("nobody, but suits", wardrobe(empty(), "5;;1.1.1.1"), -22);
        due("a sixth", wardrobe(empty(), text + ",p10.10.10.10"), -20 - text.length());
        due("no kind", wardrobe(empty(), "5;10.10.10.10"), -22);
        for (int letter = 33; letter <= 126; letter++) {
            String one = "5;" + (char) letter + "10.10.10.10";
            due(one, wardrobe(empty(), one), "ptswh".indexOf(letter) < 0 ? -22 : 1);
        }
        for (int m = 0; m < 4; m++) {
            String ahead = "5;p" + "10.".repeat(m);
            String behind = ".10".repeat(3 - m);
            due("10 as " + m, wardrobe(empty(), ahead + 10 + behind), 1);
            due("99 as " + m, wardrobe(empty(), ahead + 99 + behind), 1);
            due("9 as " + m, wardrobe(empty(), ahead + 9 + behind), -20 - ahead.length());
            due("100 as " + m, wardrobe(empty(), ahead + 100 + behind), -20 - ahead.length());
        }
        due("three numbers", wardrobe(empty(), "5;p10.10.10"), -31);
        due("five numbers", wardrobe(empty(), "5;p10.10.10.10.10"), -34);
    }

    @Says("then perhaps ; and 1 to 4 SUITS with , between: four numbers 0 .. 199 with . between (CUTS):")
    static void wardrobeOfUpToFourSuits() {
        String text = "5;p10.10.10.10";
        TailorTape none = busy();
        none.wardrobe();
        due("no suits", wardrobe(none, text), 1);
        due("none", none.count(1), 0);
        due("; and no suit", wardrobe(empty(), text + ";"), -35);
        String suits = text;
        for (int s = 0; s < 4; s++) {
            suits += (s == 0 ? ";" : ",") + "0.1.198.199";
            TailorTape x = new TailorTape();
            due("suits", wardrobe(x, suits), 1);
            due("how many", x.count(1), s + 1);
            int[] cuts = {0, 1, 198, 199};
            for (int m = 0; m < 4; m++) {
                due("cut " + m, x.cut(s, m, 0), cuts[m]);
            }
        }
        due("a fifth", wardrobe(empty(), suits + ",1.1.1.1"), -20 - suits.length());
        due("more ;", wardrobe(empty(), suits + ";"), -20 - suits.length());
        for (int m = 0; m < 4; m++) {
            String ahead = text + ";" + "0.".repeat(m);
            String behind = ".0".repeat(3 - m);
            due("199 as " + m, wardrobe(empty(), ahead + 199 + behind), 1);
            due("200 as " + m, wardrobe(empty(), ahead + 200 + behind), -20 - ahead.length());
            due("-1 as " + m, wardrobe(empty(), ahead + -1 + behind), -20 - ahead.length());
        }
        due("three numbers", wardrobe(empty(), text + ";1.1.1"), -20 - 20);
        due("five numbers", wardrobe(empty(), text + ";1.1.1.1.1"), -20 - 22);
    }

    @Says("in place of all PEOPLE, SUITS, of FADE; no DEEDS, DAY 0 (EASE, THE DRAW stay).")
    static void wardrobeInPlaceOfAll() {
        TailorTape x = full();
        x.rule(1, 9);
        due("one for five", wardrobe(x, "30;w10.20.30.40"), 1);
        counts("all", x, 1, 0, 0, 0, 30, 9, 0, 0, 0);
        due("THE DRAW stays", x.seed(0), 77);
        due("kind", x.of(0, 8), WIDOW);
        due("no deeds of it", x.of(0, 9), 0);
        measures("own", x, 0, 10, 20, 30, 40);
        due("no second person", x.of(1, 0), BAD);
        due("no suit", x.cut(0, 0, 0), BAD);
        due("no deed", x.deed(0, 0), BAD);
        due("one with suits", wardrobe(x, "30;w10.20.30.40;1.2.3.4"), 1);
        due("one without", wardrobe(x, "30;w10.20.30.40"), 1);
        due("no suit is left", x.count(1), 0);
        due("the next person", x.person(PLAIN, 50), 1);
        due("the next suit", x.suit(50), 0);
        due("the next deed", x.does(1, LIE, 1), 0);
        due("it is not mended", x.deed(0, 4), 0);
        due("its day", x.deed(0, 3), 0);
    }

    @Says("Numbers have 1 to 3 digits.")
    static void wardrobeNumbersOfOneToThreeDigits() {
        String[] fades = {"7", "07", "007"};
        for (String fade : fades) {
            TailorTape x = new TailorTape();
            due("fade " + fade, wardrobe(x, fade + ";p10.010.99.099;0.00.000.007"), 1);
            due("fade", x.count(4), 7);
            measures("own", x, 0, 10, 10, 99, 99);
            due("cut", x.cut(0, 3, 1), 7);
        }
        due("no digit", wardrobe(empty(), "7;p10..10.10"), -26);
        due("a fourth digit can't stand there", wardrobe(empty(), "0307;"), -23);
        due("nor here", wardrobe(empty(), "7;p0990.10.10.10"), -26);
        due("nor here", wardrobe(empty(), "7;p10.10.10.10;0.0.0.1990"), -20 - 24);
        due("three of them are not as told already", wardrobe(empty(), "7;p1000."), -23);
        due("nor are these", wardrobe(empty(), "0007;"), -20);
    }

    private static final String WHOLE = "7;p10.20.30.40,t50.60.70.80;1.2.3.4,5.6.7.8";

    @Says({"FAULTS: -20 less the place of the first letter (behind blanks) that can't stand there,",
        "or of the number's first digit, if it is not as told (the end: how many there are);"})
    static void wardrobeFaultsByPlace() {
        // by how many letters there are: the fault's place, or 100 and how many people
        int[] prefixes = {0, 1, 2, 3, 3, 5, 6, 6, 8, 9, 9, 11, 12, 12, 101, 15, 16, 16, 18, 19, 19, 21, 22, 22, 24, 25, 25, 102,
            28, 29, 30, 31, 32, 33, 34, 102, 36, 37, 38, 39, 40, 41, 42, 102};
        for (int n = 0; n <= WHOLE.length(); n++) {
            String text = WHOLE.substring(0, n);
            int place = prefixes[n];
            due(text, wardrobe(empty(), text), place > 100 ? place - 100 : -20 - place);
            boolean isWithin = n < WHOLE.length() && Character.isDigit(WHOLE.charAt(n)) && place != n;
            if (!isWithin) {
                due(text + "~", wardrobe(empty(), text + "~"), -20 - n);
                due(text + "  ~", wardrobe(empty(), text + "  ~"), -20 - n - 2);
                due(text + "   ", wardrobe(empty(), text + "   "), place > 100 ? place - 100 : -20 - n - 3);
            }
        }
        for (int k = 0; k < WHOLE.length(); k++) {
            boolean isSecondDigit = k > 0 && Character.isDigit(WHOLE.charAt(k)) && Character.isDigit(WHOLE.charAt(k - 1));
            String text = WHOLE.substring(0, k) + "~" + WHOLE.substring(k + 1);
            due(text, wardrobe(empty(), text), -20 - (isSecondDigit ? k - 1 : k));
        }
        due("the first of two", wardrobe(empty(), "7;p9.9.9.9"), -23);
        due("a number behind blanks", wardrobe(empty(), "   31;"), -23);
        due("a full tape", wardrobe(empty(), "7" + " ".repeat(129)), -150);
        due("the last letter of a full tape", wardrobe(empty(), " ".repeat(129) + "x"), -149);
    }

    @Says("blanks count for nothing, but end a number.")
    static void wardrobeBlanks() {
        String blanks = WHOLE.replaceAll("([;,.pt])", "  $1  ");
        TailorTape x = new TailorTape();
        due("between all", wardrobe(x, "   " + blanks + "   "), 2);
        measures("own", x, 0, 10, 20, 30, 40);
        measures("own", x, 1, 50, 60, 70, 80);
        due("first and last", wardrobe(empty(), "   7;p10.10.10.10   "), 1);
        due("within fade", wardrobe(empty(), "1 2;p10.10.10.10"), -22);
        due("within an own measure", wardrobe(empty(), "7;p1 0.10.10.10"), -23);
        due("behind one that is as told", wardrobe(empty(), "7;p10 0.10.10.10"), -26);
        due("within a cut", wardrobe(empty(), "7;p10.10.10.10;1  2.1.1.1"), -20 - 18);
        due("blanks alone", wardrobe(empty(), "    "), -24);
        TailorTape end = new TailorTape();
        due("a blank ends the last number", wardrobe(end, "7;p10.10.10.10;1.1.1.19 "), 1);
        due("so it is", end.cut(0, 3, 0), 19);
    }

    // ---- sheets

    @Says("3 sheets 0 .. 3: nothing (at first), or a row of a LANE: 0 bytes, 1 shorts, 2 ints, 3 longs, of 0 to 24 items.")
    static void sheetsAndLanes() {
        for (int s = 0; s < 4; s++) {
            due("nothing at first", new TailorTape().drop(s), NULL);
        }
        due("no sheet 4", new TailorTape().drop(4), BAD);
        due("no sheet -1", new TailorTape().drop(-1), BAD);
        for (int lane = 0; lane < 4; lane++) {
            TailorTape x = new TailorTape();
            due("no items", x.sheet(lane, lane, 0), 0);
            due("none", x.drop(lane), 0);
            due("24 items", x.sheet(lane, lane, 24), 24);
            due("the first", x.item(lane, lane, 0, 1), 1);
            due("the last", x.item(lane, lane, 23, 1), 1);
            due("none behind it", x.item(lane, lane, 24, 1), INDEX);
            due("24", x.drop(lane), 24);
            due("not 25", x.sheet(lane, lane, 25), BAD);
        }
        refuses(Edges::busy, BAD, "sheet", 0, 4, 4);
        refuses(Edges::busy, BAD, "sheet", 0, -1, 4);
    }
}
