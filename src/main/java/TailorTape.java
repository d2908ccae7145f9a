/**
 * A tailor's shop in a town where guilt shows on the tape. The face is that of ../shared/DOC.md; words in
 * capitals in the comments are the document's own.
 */
public final class TailorTape {
    public static final int BAD = -1, NOT = -2, FULL = -3, NONE = -4, NULL = -11, CAST = -12, INDEX = -13, SIZE = -14;

    private static final int MEASURES = 4, SLEEVE = 0, SEAT = 1;
    private static final int KINDS = 5, TALL = 1, SEATED = 2, WIDOW = 3, SAINT = 4;
    private static final int MOST_PEOPLE = 5, LEAST_OWN = 10, MOST_OWN = 99;
    private static final int MOST_SUITS = 4, MOST_CUT = 199;
    private static final int MOST_DEEDS = 10, SORTS = 6, MOST_WEIGHT = 9;
    private static final int MOST_FADE = 30, MOST_EASE = 9, LAST_DAY = 9999;
    private static final int MOST_DAYS = 99, MOST_CUT_DAYS = 40, MOST_FILM_DAYS = 24, MOST_LONGER = 99;
    private static final int MOST_LETTERS = 130, FIRST_FAULT = -20;
    private static final int SHEETS = 4, LANES = 4, MOST_ITEMS = 24;
    private static final int FINE = 0;

    /** By SORT, the set of MEASURES on which a DEED shows: 1 SLEEVE, 2 SEAT, 4 COLLAR, 8 WAIST. */
    private static final int[] SHOWN_ON = {4, 1, 1, 8, 2, 15};

    private final Shop shop;
    private final Shop kept;
    private boolean imaged;
    private final Reader reader;
    private final Foresight foresight;
    private final Row[] sheets;

    public TailorTape() {
        shop = new Shop();
        kept = new Shop();
        reader = new Reader();
        foresight = new Foresight(shop);
        sheets = new Row[SHEETS];
    }

    // ---- 1 people, suits, deeds

    public int person(int kind, int v) {
        if (!within(kind, 0, KINDS - 1) || !within(v, LEAST_OWN, MOST_OWN)) {
            return BAD;
        }
        return shop.people < MOST_PEOPLE ? shop.addPerson(kind, v) : FULL;
    }

    public int own(int person, int measure, int v) {
        if (!shop.hasPerson(person) || !isMeasure(measure) || !within(v, LEAST_OWN, MOST_OWN)) {
            return BAD;
        }
        int was = shop.owns[person * MEASURES + measure];
        shop.owns[person * MEASURES + measure] = v;
        return was;
    }

    public int suit(int v) {
        if (!within(v, 0, MOST_CUT)) {
            return BAD;
        }
        return shop.suits < MOST_SUITS ? shop.addSuit(v) : FULL;
    }

    public int cut(int suit, int measure, int v) {
        if (!shop.hasSuit(suit) || !isMeasure(measure) || !within(v, 0, MOST_CUT)) {
            return BAD;
        }
        int was = shop.cuts[suit * MEASURES + measure];
        shop.cuts[suit * MEASURES + measure] = v;
        return was;
    }

    public int of(int person, int what) {
        if (!shop.hasPerson(person) || !within(what, 0, 9)) {
            return BAD;
        }
        if (what < MEASURES) {
            return shop.measureBehind(person, what, 0);
        }
        if (what < 2 * MEASURES) {
            return shop.owns[person * MEASURES + what - MEASURES];
        }
        return what == 8 ? shop.kinds[person] : shop.deedsBy(person);
    }

    public int deed(int deed, int what) {
        if (!shop.hasDeed(deed)) {
            return BAD;
        }
        switch (what) {
            case 0:
                return shop.doers[deed];
            case 1:
                return shop.sorts[deed];
            case 2:
                return shop.weights[deed];
            case 3:
                return shop.dates[deed];
            case 4:
                return shop.isMended(deed) ? 1 : 0;
            case 5:
                return shop.leftNow(deed);
            default:
                return BAD;
        }
    }

    public int tries(int person, int suit, int what) {
        if (!shop.hasPerson(person) || !shop.hasSuit(suit) || !isEither(what)) {
            return BAD;
        }
        if (what == 0) {
            return shop.showsBehind(person, suit, 0);
        }
        return shop.fitsBehind(person, suit, 0) ? 1 : 0;
    }

    public int rule(int what, int v) {
        if (what == 0 && within(v, 1, MOST_FADE)) {
            int was = shop.fade;
            shop.fade = v;
            return was;
        }
        if (what == 1 && within(v, 0, MOST_EASE)) {
            int was = shop.ease;
            shop.ease = v;
            return was;
        }
        return BAD;
    }

    public int type(int letter) {
        if (!within(letter, 32, 126)) {
            return BAD;
        }
        return reader.length < MOST_LETTERS ? reader.addLetter(letter) : FULL;
    }

    public int wardrobe() {
        int fault = reader.readAll();
        reader.length = 0;
        if (fault != Reader.NO_FAULT) {
            return FIRST_FAULT - fault;
        }
        shop.takeWardrobe(reader);
        return shop.people;
    }

    public int count(int what) {
        switch (what) {
            case 0:
                return shop.people;
            case 1:
                return shop.suits;
            case 2:
                return shop.deeds;
            case 3:
                return shop.today;
            case 4:
                return shop.fade;
            case 5:
                return shop.ease;
            case 6:
                return shop.mended;
            case 7:
                return shop.leftOfAll();
            case 8:
                return shop.known;
            default:
                return BAD;
        }
    }

    // ---- what is done

    public int does(int person, int sort, int weight) {
        if (!shop.hasPerson(person) || !within(sort, 0, SORTS - 1) || !within(weight, 1, MOST_WEIGHT)) {
            return BAD;
        }
        if (shop.deeds >= MOST_DEEDS) {
            return FULL;
        }
        shop.remember();
        return shop.addDeed(person, sort, weight);
    }

    public int mend(int deed) {
        if (!shop.hasDeed(deed)) {
            return BAD;
        }
        if (shop.isMended(deed)) {
            return NOT;
        }
        shop.remember();
        shop.mended |= 1 << deed;
        return shop.leftNow(deed);
    }

    public int days(int n) {
        int refusal = refusalOfDays(n);
        if (refusal != FINE) {
            return refusal;
        }
        for (int k = 0; k < n; k++) {
            shop.remember();
            shop.today++;
        }
        return shop.leftOfAll();
    }

    public int drift(int n) {
        int refusal = refusalOfDays(n);
        if (refusal != FINE) {
            return refusal;
        }
        int before = shop.deeds;
        for (int k = 0; k < n; k++) {
            shop.driftOneDay();
        }
        return shop.deeds - before;
    }

    public int undo() {
        if (shop.known < 1) {
            return NONE;
        }
        shop.takeBack();
        return shop.known;
    }

    public int seed(int v) {
        if (v < 0) {
            return BAD;
        }
        int was = shop.draw;
        shop.draw = v;
        return was;
    }

    // ---- 2 foretold

    public int ahead(int person, int measure, int n) {
        if (!shop.hasPerson(person) || !isMeasure(measure) || !within(n, 0, MOST_DAYS)) {
            return BAD;
        }
        return shop.measureBehind(person, measure, n);
    }

    public int showsAhead(int person, int suit, int n) {
        if (!shop.hasPerson(person) || !shop.hasSuit(suit) || !within(n, 0, MOST_DAYS)) {
            return BAD;
        }
        return shop.showsBehind(person, suit, n);
    }

    public int again(int person, int suit) {
        if (!shop.hasPerson(person) || !shop.hasSuit(suit)) {
            return BAD;
        }
        return foresight.firstFit(person, suit);
    }

    public int wedding(int person, int suit, int n, int what) {
        if (!shop.hasPerson(person) || !shop.hasSuit(suit) || !within(n, 0, MOST_DAYS) || !isEither(what)) {
            return BAD;
        }
        int set = foresight.fewestToMend(person, suit, n);
        if (set < 0) {
            return NONE;
        }
        return what == 0 ? Integer.bitCount(set) : set;
    }

    public int bestCut(int person, int measure, int n, int what) {
        if (!shop.hasPerson(person) || !isMeasure(measure) || !within(n, 0, MOST_CUT_DAYS) || !isEither(what)) {
            return BAD;
        }
        int least = foresight.leastShowingCut(person, measure, n);
        return what == 0 ? least : foresight.farInAll(least, n);
    }

    public int wear(int person) {
        if (person != NONE && !shop.hasPerson(person)) {
            return BAD;
        }
        foresight.findFitting();
        foresight.matchSuits();
        return person == NONE ? foresight.mostDressed() : foresight.suitOf(person);
    }

    public int luck(int person, int suit, int what) {
        if (!shop.hasPerson(person) || !shop.hasSuit(suit) || !isEither(what)) {
            return BAD;
        }
        return foresight.likelihood(person, suit, what == 0);
    }

    public int warrant(int n) {
        if (!within(n, 1, MOST_LONGER)) {
            return BAD;
        }
        return foresight.longerByAtLeast(n);
    }

    public int image() {
        kept.takeAll(shop);
        imaged = true;
        return 1;
    }

    public int restore() {
        if (!imaged) {
            return NONE;
        }
        shop.takeAll(kept);
        return 1;
    }

    // ---- 3 sheets

    public int done(int person, int sheet, int lane, int i, int what) {
        if (!shop.hasPerson(person) || !isSheet(sheet) || !isLane(lane) || !isEither(what)) {
            return BAD;
        }
        Row row = sheets[sheet];
        if (row == null) {
            return NULL;
        }
        int refusal = row.refusal(lane, i, MEASURES);
        if (refusal != FINE) {
            return refusal;
        }
        foresight.explain(shop.kinds[person], row, i);
        return what == 0 ? foresight.ways : foresight.firstWay;
    }

    public int film(int person, int measure, int n, int sheet, int lane, int i) {
        if (!shop.hasPerson(person) || !isMeasure(measure) || !within(n, 1, MOST_FILM_DAYS)
                || !isSheet(sheet) || !isLane(lane)) {
            return BAD;
        }
        Row row = sheets[sheet];
        if (row == null) {
            return NULL;
        }
        int refusal = row.refusal(lane, i, n);
        if (refusal != FINE) {
            return refusal;
        }
        for (int k = 0; k < n; k++) {
            row.put(i + k, shop.measureBehind(person, measure, k + 1));
        }
        return n;
    }

    public int sheet(int sheet, int lane, int n) {
        if (!isSheet(sheet) || !isLane(lane) || n > MOST_ITEMS) {
            return BAD;
        }
        if (n < 0) {
            return SIZE;
        }
        sheets[sheet] = new Row(lane, n);
        return n;
    }

    public int drop(int sheet) {
        if (!isSheet(sheet)) {
            return BAD;
        }
        Row row = sheets[sheet];
        if (row == null) {
            return NULL;
        }
        sheets[sheet] = null;
        return row.items.length;
    }

    public int item(int sheet, int lane, int i, long v) {
        if (!isSheet(sheet) || !isLane(lane)) {
            return BAD;
        }
        Row row = sheets[sheet];
        if (row == null) {
            return NULL;
        }
        int refusal = row.refusal(lane, i, 1);
        if (refusal != FINE) {
            return refusal;
        }
        row.put(i, v);
        return 1;
    }

    public int copy(int from, int i, int to, int j, int n) {
        if (!isSheet(from) || !isSheet(to)) {
            return BAD;
        }
        Row source = sheets[from];
        Row target = sheets[to];
        if (source == null || target == null) {
            return NULL;
        }
        if (source.lane != target.lane) {
            return CAST;
        }
        if (!source.holds(i, n) || !target.holds(j, n)) {
            return INDEX;
        }
        System.arraycopy(source.items, i, target.items, j, n);
        return n;
    }

    // ---- what calls ask of their numbers

    private static boolean within(int v, int least, int most) {
        return v >= least && v <= most;
    }

    private static boolean isMeasure(int measure) {
        return within(measure, 0, MEASURES - 1);
    }

    private static boolean isEither(int what) {
        return what == 0 || what == 1;
    }

    private static boolean isSheet(int sheet) {
        return within(sheet, 0, SHEETS - 1);
    }

    private static boolean isLane(int lane) {
        return within(lane, 0, LANES - 1);
    }

    private static int lowestOf(int set) {
        return Integer.bitCount((set & -set) - 1);
    }

    private int refusalOfDays(int n) {
        if (!within(n, 1, MOST_DAYS)) {
            return BAD;
        }
        return shop.today + n > LAST_DAY ? FULL : FINE;
    }

    // ---- by how much a DEED makes a MEASURE longer

    private static int longer(int kind, int sort, int measure, int left) {
        int times = timesShown(kind, sort, measure);
        if (times < 1 || left < 1) {
            return 0;
        }
        switch (kind) {
            case TALL:
                return left + 1;
            case WIDOW:
                // 2 less than TALL, and never below 0, as something is LEFT here
                return left - 1;
            case SAINT:
                return times * left / 2;
            default:
                return times * left;
        }
    }

    /** How often what is LEFT shows on a MEASURE: of a TREASON twice on the SEAT of who has no SLEEVE to show it. */
    private static int timesShown(int kind, int sort, int measure) {
        if (sort < 0 || sort >= SHOWN_ON.length) {
            return 0;
        }
        int times = SHOWN_ON[sort] >> measure & 1;
        if (kind != SEATED && kind != SAINT) {
            return times;
        }
        if (measure == SLEEVE) {
            return 0;
        }
        return measure == SEAT ? times + (SHOWN_ON[sort] >> SLEEVE & 1) : times;
    }

    /** All that an IMAGE keeps; two of them are made once, so that an IMAGE costs no new object. */
    private static final class Shop {
        private static final int MOST_KNOWN = 8, STEP = 4;
        private static final int DRAW_FACTOR = 1103515245, DRAW_MORE = 12345, DRAW_BITS = 0x7fffffff;

        int people, suits, deeds, mended, today, known;
        int fade = 5, ease = 1, draw = 1;
        final int[] kinds = new int[MOST_PEOPLE];
        final int[] owns = new int[MOST_PEOPLE * MEASURES];
        final int[] cuts = new int[MOST_SUITS * MEASURES];
        final int[] doers = new int[MOST_DEEDS];
        final int[] sorts = new int[MOST_DEEDS];
        final int[] weights = new int[MOST_DEEDS];
        final int[] dates = new int[MOST_DEEDS];
        /** What may be UNDONE, latest last: DEEDS are only ever added or MENDED, so their number and set suffice. */
        final int[] past = new int[MOST_KNOWN * STEP];

        boolean hasPerson(int person) {
            return within(person, 0, people - 1);
        }

        boolean hasSuit(int suit) {
            return within(suit, 0, suits - 1);
        }

        boolean hasDeed(int deed) {
            return within(deed, 0, deeds - 1);
        }

        int addPerson(int kind, int v) {
            int person = people;
            kinds[person] = kind;
            for (int m = 0; m < MEASURES; m++) {
                owns[person * MEASURES + m] = v;
            }
            people = person + 1;
            known = 0;
            return person;
        }

        int addSuit(int v) {
            int suit = suits;
            for (int m = 0; m < MEASURES; m++) {
                cuts[suit * MEASURES + m] = v;
            }
            suits = suit + 1;
            known = 0;
            return suit;
        }

        int addDeed(int person, int sort, int weight) {
            int deed = deeds;
            doers[deed] = person;
            sorts[deed] = sort;
            weights[deed] = weight;
            dates[deed] = today;
            deeds = deed + 1;
            return deed;
        }

        boolean isMended(int deed) {
            return (mended >> deed & 1) == 1;
        }

        int deedsBy(int person) {
            int set = 0;
            for (int d = 0; d < deeds; d++) {
                if (doers[d] == person) {
                    set |= 1 << d;
                }
            }
            return set;
        }

        int leftBehind(int deed, int n, boolean isMended) {
            if (fade < 1) {
                return 0;
            }
            int left = Math.max(0, weights[deed] - (today + n - dates[deed]) / fade);
            return isMended ? left / 2 : left;
        }

        int leftNow(int deed) {
            return leftBehind(deed, 0, isMended(deed));
        }

        int leftOfAll() {
            int all = 0;
            for (int d = 0; d < deeds; d++) {
                all += leftNow(d);
            }
            return all;
        }

        int longerBehind(int person, int measure, int n) {
            int all = 0;
            for (int d = 0; d < deeds; d++) {
                if (doers[d] == person) {
                    all += longer(kinds[person], sorts[d], measure, leftBehind(d, n, isMended(d)));
                }
            }
            return all;
        }

        int measureBehind(int person, int measure, int n) {
            return owns[person * MEASURES + measure] + longerBehind(person, measure, n);
        }

        /** How much longer than the CUT a MEASURE is; below 0 if it is shorter. */
        int gapBehind(int person, int suit, int measure, int n) {
            int before = owns[person * MEASURES + measure] - cuts[suit * MEASURES + measure];
            return before + longerBehind(person, measure, n);
        }

        int showsBehind(int person, int suit, int n) {
            int shows = 0;
            for (int m = 0; m < MEASURES; m++) {
                shows += Math.abs(gapBehind(person, suit, m, n));
            }
            return shows;
        }

        boolean fitsBehind(int person, int suit, int n) {
            for (int m = 0; m < MEASURES; m++) {
                if (Math.abs(gapBehind(person, suit, m, n)) > ease) {
                    return false;
                }
            }
            return true;
        }

        /** Called ahead of all that may be UNDONE. */
        void remember() {
            if (known >= MOST_KNOWN) {
                System.arraycopy(past, STEP, past, 0, past.length - STEP);
                known = MOST_KNOWN - 1;
            }
            int at = known * STEP;
            past[at] = deeds;
            past[at + 1] = mended;
            past[at + 2] = today;
            past[at + 3] = draw;
            known++;
        }

        void takeBack() {
            known--;
            int at = known * STEP;
            deeds = past[at];
            mended = past[at + 1];
            today = past[at + 2];
            draw = past[at + 3];
        }

        /** THE DRAW, its DEED and the DAY are one step, so that the DAY UNDONE is as it had not been. */
        void driftOneDay() {
            remember();
            draw = draw * DRAW_FACTOR + DRAW_MORE & DRAW_BITS;
            int high = draw / 65536;
            if (people > 0 && deeds < MOST_DEEDS && high % 3 == 0) {
                addDeed(high % people, draw / 128 % SORTS, 1 + draw / 1024 % MOST_WEIGHT);
            }
            today++;
        }

        void takeWardrobe(Reader reader) {
            fade = reader.fade;
            people = reader.people;
            suits = reader.suits;
            System.arraycopy(reader.kinds, 0, kinds, 0, kinds.length);
            System.arraycopy(reader.owns, 0, owns, 0, owns.length);
            System.arraycopy(reader.cuts, 0, cuts, 0, cuts.length);
            deeds = 0;
            mended = 0;
            today = 0;
            known = 0;
        }

        void takeAll(Shop other) {
            people = other.people;
            suits = other.suits;
            deeds = other.deeds;
            mended = other.mended;
            today = other.today;
            known = other.known;
            fade = other.fade;
            ease = other.ease;
            draw = other.draw;
            System.arraycopy(other.kinds, 0, kinds, 0, kinds.length);
            System.arraycopy(other.owns, 0, owns, 0, owns.length);
            System.arraycopy(other.cuts, 0, cuts, 0, cuts.length);
            System.arraycopy(other.doers, 0, doers, 0, doers.length);
            System.arraycopy(other.sorts, 0, sorts, 0, sorts.length);
            System.arraycopy(other.weights, 0, weights, 0, weights.length);
            System.arraycopy(other.dates, 0, dates, 0, dates.length);
            System.arraycopy(other.past, 0, past, 0, past.length);
        }
    }

    /** What is found by looking ahead or by trying sets; its rows are made once and used by every call again. */
    private static final class Foresight {
        private static final int SUIT_SETS = 1 << MOST_SUITS, SORT_SETS = 1 << SORTS;

        private final Shop shop;
        /** A MEASURE now and behind each of the next DAYS. */
        private final int[] lengths = new int[MOST_CUT_DAYS + 1];
        /** How far MEASURES are from the CUT while DEEDS are MENDED and not. */
        private final int[] gaps = new int[MEASURES];
        private final int[] open = new int[MOST_DEEDS];
        /** By open DEED and MEASURE: by how much shorter it gets, if that is MENDED. */
        private final int[] gains = new int[MOST_DEEDS * MEASURES];
        /** By PERSON: the set of SUITS that FIT. */
        private final int[] fitting = new int[MOST_PEOPLE];
        /** By PERSON and set of SUITS taken: how many from that PERSON on can have one. */
        private final int[] most = new int[(MOST_PEOPLE + 1) * SUIT_SETS];
        /** By set of SORTS and MEASURE: by how much longer. */
        private final int[] sums = new int[SORT_SETS * MEASURES];
        private final long[] wanted = new long[MEASURES];
        int ways, firstWay;

        Foresight(Shop shop) {
            this.shop = shop;
        }

        int firstFit(int person, int suit) {
            for (int n = 0; n <= MOST_DAYS; n++) {
                if (shop.fitsBehind(person, suit, n)) {
                    return n;
                }
            }
            return NONE;
        }

        /** The set of DEEDS, or NONE. Sets are tried in order, so of like ones the least stays. */
        int fewestToMend(int person, int suit, int n) {
            for (int m = 0; m < MEASURES; m++) {
                gaps[m] = shop.gapBehind(person, suit, m, n);
            }
            int openOnes = findOpenDeeds(person, n);
            int best = NONE;
            int fewest = openOnes + 1;
            for (int set = 0; set < 1 << openOnes; set++) {
                if (set > 0) {
                    stepTo(set);
                }
                int size = Integer.bitCount(set);
                if (size < fewest && gapsAreEasy()) {
                    fewest = size;
                    best = set;
                }
            }
            return best < 0 ? NONE : asDeeds(best, openOnes);
        }

        private int findOpenDeeds(int person, int n) {
            int found = 0;
            for (int d = 0; d < shop.deeds; d++) {
                if (shop.doers[d] == person && !shop.isMended(d)) {
                    open[found] = d;
                    findGains(found, n);
                    found++;
                }
            }
            return found;
        }

        private void findGains(int index, int n) {
            int deed = open[index];
            int kind = shop.kinds[shop.doers[deed]];
            int sort = shop.sorts[deed];
            int left = shop.leftBehind(deed, n, false);
            int leftMended = shop.leftBehind(deed, n, true);
            for (int m = 0; m < MEASURES; m++) {
                gains[index * MEASURES + m] = longer(kind, sort, m, left) - longer(kind, sort, m, leftMended);
            }
        }

        /** From the set just below: the lowest bit of the new one comes, all that were below it go. */
        private void stepTo(int set) {
            int coming = lowestOf(set);
            for (int k = 0; k <= coming && k < MOST_DEEDS; k++) {
                int sign = k == coming ? -1 : 1;
                for (int m = 0; m < MEASURES; m++) {
                    gaps[m] += sign * gains[k * MEASURES + m];
                }
            }
        }

        private boolean gapsAreEasy() {
            for (int m = 0; m < MEASURES; m++) {
                if (Math.abs(gaps[m]) > shop.ease) {
                    return false;
                }
            }
            return true;
        }

        private int asDeeds(int set, int openOnes) {
            int named = 0;
            for (int k = 0; k < openOnes; k++) {
                if ((set >> k & 1) == 1) {
                    named |= 1 << open[k];
                }
            }
            return named;
        }

        /** Leaves the lengths that it saw to farInAll. */
        int leastShowingCut(int person, int measure, int n) {
            for (int k = 0; k <= n; k++) {
                lengths[k] = shop.measureBehind(person, measure, k);
            }
            int best = 0;
            int least = farInAll(0, n);
            for (int c = 1; c <= MOST_CUT; c++) {
                int far = farInAll(c, n);
                if (far >= least) {
                    // what is added up only grows from here on, or stays
                    break;
                }
                best = c;
                least = far;
            }
            return best;
        }

        int farInAll(int c, int n) {
            int far = 0;
            for (int k = 0; k <= n; k++) {
                far += Math.abs(lengths[k] - c);
            }
            return far;
        }

        void findFitting() {
            for (int p = 0; p < shop.people; p++) {
                fitting[p] = 0;
                for (int s = 0; s < shop.suits; s++) {
                    if (shop.fitsBehind(p, s, 0)) {
                        fitting[p] |= 1 << s;
                    }
                }
            }
        }

        /** Fills most from the last PERSON back; mostDressed and suitOf read it. */
        void matchSuits() {
            for (int set = 0; set < SUIT_SETS; set++) {
                most[shop.people * SUIT_SETS + set] = 0;
            }
            for (int p = shop.people - 1; p >= 0; p--) {
                for (int taken = 0; taken < SUIT_SETS; taken++) {
                    most[p * SUIT_SETS + taken] = mostFrom(p, taken);
                }
            }
        }

        private int mostFrom(int person, int taken) {
            int best = most[(person + 1) * SUIT_SETS + taken];
            for (int s = 0; s < shop.suits; s++) {
                if (isFree(person, s, taken)) {
                    best = Math.max(best, mostWith(person, s, taken));
                }
            }
            return best;
        }

        private boolean isFree(int person, int suit, int taken) {
            return ((fitting[person] & ~taken) >> suit & 1) == 1;
        }

        private int mostWith(int person, int suit, int taken) {
            return 1 + most[(person + 1) * SUIT_SETS + (taken | 1 << suit)];
        }

        int mostDressed() {
            return most[0];
        }

        int suitOf(int person) {
            int taken = 0;
            int worn = NONE;
            for (int p = 0; p <= person; p++) {
                worn = firstChoice(p, taken);
                if (worn != NONE) {
                    taken |= 1 << worn;
                }
            }
            return worn;
        }

        private int firstChoice(int person, int taken) {
            for (int s = 0; s < shop.suits; s++) {
                if (isFree(person, s, taken) && mostWith(person, s, taken) == most[person * SUIT_SETS + taken]) {
                    return s;
                }
            }
            return NONE;
        }

        int likelihood(int person, int suit, boolean isAbove) {
            int above = 1;
            int below = 1;
            for (int m = 0; m < MEASURES; m++) {
                int easy = easyReadings(shop.gapBehind(person, suit, m, 0));
                // of three readings, none or all are in lowest terms only as 0 and 1
                if (easy == 0) {
                    return isAbove ? 0 : 1;
                }
                if (easy < 3) {
                    above *= easy;
                    below *= 3;
                }
            }
            return isAbove ? above : below;
        }

        private int easyReadings(int gap) {
            int easy = 0;
            for (int error = -1; error <= 1; error++) {
                if (Math.abs(gap + error) <= shop.ease) {
                    easy++;
                }
            }
            return easy;
        }

        int longerByAtLeast(int n) {
            int set = 0;
            for (int p = 0; p < shop.people; p++) {
                for (int m = 0; m < MEASURES; m++) {
                    if (shop.longerBehind(p, m, 0) >= n) {
                        set |= 1 << p;
                    }
                }
            }
            return set;
        }

        /** Leaves what it found in ways and firstWay. */
        void explain(int kind, Row row, int i) {
            for (int m = 0; m < MEASURES; m++) {
                wanted[m] = row.items[i + m];
            }
            ways = 0;
            firstWay = NONE;
            for (int weight = 1; weight <= MOST_WEIGHT; weight++) {
                for (int set = 1; set < SORT_SETS; set++) {
                    if (addsUpTo(kind, weight, set)) {
                        ways++;
                        firstWay = firstWay == NONE ? 100 * weight + set : firstWay;
                    }
                }
            }
        }

        /** Leaves the set's sums to the larger sets, so that each adds but one SORT. */
        private boolean addsUpTo(int kind, int weight, int set) {
            int sort = lowestOf(set);
            int rest = set & set - 1;
            boolean same = true;
            for (int m = 0; m < MEASURES; m++) {
                int sum = sums[rest * MEASURES + m] + longer(kind, sort, m, weight);
                sums[set * MEASURES + m] = sum;
                same &= sum == wanted[m];
            }
            return same;
        }
    }

    /** THE TAPE, and what a WARDROBE on it says; nothing of the shop is touched until all of it is read. */
    private static final class Reader {
        private static final int NO_FAULT = -1, END = -1, BLANK = ' ', MOST_DIGITS = 3;
        private static final String KIND_LETTERS = "ptswh";

        private final int[] letters = new int[MOST_LETTERS];
        int length;
        private int at, fault;
        int fade, people, suits;
        final int[] kinds = new int[MOST_PEOPLE];
        final int[] owns = new int[MOST_PEOPLE * MEASURES];
        final int[] cuts = new int[MOST_SUITS * MEASURES];

        int addLetter(int letter) {
            letters[length] = letter;
            length++;
            return length;
        }

        /** The place of the FAULT, or NO_FAULT. */
        int readAll() {
            at = 0;
            fault = NO_FAULT;
            suits = 0;
            fade = readNumber(1, MOST_FADE);
            expect(';');
            readPeople();
            if (fault == NO_FAULT && next() != END) {
                expect(';');
                readSuits();
            }
            if (fault == NO_FAULT && next() != END) {
                fault = at;
            }
            return fault;
        }

        private void readPeople() {
            for (int p = 0; p < MOST_PEOPLE && fault == NO_FAULT; p++) {
                if (p > 0 && !took(',')) {
                    break;
                }
                kinds[p] = readKind();
                readFour(owns, p, LEAST_OWN, MOST_OWN);
                people = p + 1;
            }
        }

        private void readSuits() {
            for (int s = 0; s < MOST_SUITS && fault == NO_FAULT; s++) {
                if (s > 0 && !took(',')) {
                    break;
                }
                readFour(cuts, s, 0, MOST_CUT);
                suits = s + 1;
            }
        }

        private void readFour(int[] row, int index, int least, int greatest) {
            for (int m = 0; m < MEASURES; m++) {
                if (m > 0) {
                    expect('.');
                }
                row[index * MEASURES + m] = readNumber(least, greatest);
            }
        }

        private int readKind() {
            int letter = next();
            int kind = letter == END ? -1 : KIND_LETTERS.indexOf((char) letter);
            if (kind < 0) {
                faultAt(at);
                return 0;
            }
            at++;
            return kind;
        }

        private int readNumber(int least, int greatest) {
            int letter = next();
            int first = at;
            int v = 0;
            while (at - first < MOST_DIGITS && letter >= '0' && letter <= '9') {
                v = v * 10 + letter - '0';
                at++;
                letter = at < length ? letters[at] : END;
            }
            if (at == first || v < least || v > greatest) {
                faultAt(first);
            }
            return v;
        }

        private void expect(int letter) {
            if (!took(letter)) {
                faultAt(at);
            }
        }

        private boolean took(int letter) {
            if (next() != letter) {
                return false;
            }
            at++;
            return true;
        }

        /** The letter behind blanks, still to be taken. */
        private int next() {
            while (at < length && letters[at] == BLANK) {
                at++;
            }
            return at < length ? letters[at] : END;
        }

        /** Reading goes on behind a FAULT, so only the first one counts. */
        private void faultAt(int place) {
            if (fault == NO_FAULT) {
                fault = place;
            }
        }
    }

    /** What a SHEET holds: items are kept as longs, cut to what their LANE can hold. */
    private static final class Row {
        final int lane;
        final long[] items;

        Row(int lane, int n) {
            this.lane = lane;
            items = new long[n];
        }

        int refusal(int takenAs, int i, int n) {
            if (takenAs != lane) {
                return CAST;
            }
            return holds(i, n) ? FINE : INDEX;
        }

        boolean holds(int i, int n) {
            return i >= 0 && n >= 0 && n <= items.length && i <= items.length - n;
        }

        void put(int i, long v) {
            items[i] = lowestBits(v);
        }

        private long lowestBits(long v) {
            switch (lane) {
                case 0:
                    return (byte) v;
                case 1:
                    return (short) v;
                case 2:
                    return (int) v;
                default:
                    return v;
            }
        }
    }
}
