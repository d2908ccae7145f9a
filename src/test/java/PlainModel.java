import java.util.ArrayDeque;
import java.util.ArrayList;
import java.util.Deque;
import java.util.List;

/**
 * The document read once more, as slowly and plainly as can be: objects for all things, whole copies for undo and
 * images, every possibility tried. The random runs hold the class against it.
 */
final class PlainModel {
    static final int BAD = -1, NOT = -2, FULL = -3, NONE = -4, NULL = -11, CAST = -12, INDEX = -13, SIZE = -14;

    private static class Plain {
        int[] longer(int sort, int left) {
            int[] by = new int[4];
            if (left > 0) {
                switch (sort) {
                    case 0 -> by[2] = left;
                    case 1, 2 -> by[0] = left;
                    case 3 -> by[3] = left;
                    case 4 -> by[1] = left;
                    default -> by = new int[] {left, left, left, left};
                }
            }
            return by;
        }
    }

    private static class Tall extends Plain {
        @Override
        int[] longer(int sort, int left) {
            int[] by = super.longer(sort, left);
            for (int m = 0; m < 4; m++) {
                by[m] = by[m] == 0 ? 0 : by[m] + 1;
            }
            return by;
        }
    }

    private static class Seated extends Plain {
        @Override
        int[] longer(int sort, int left) {
            int[] by = super.longer(sort, left);
            return new int[] {0, by[0] + by[1], by[2], by[3]};
        }
    }

    private static class Widow extends Tall {
        @Override
        int[] longer(int sort, int left) {
            int[] by = super.longer(sort, left);
            for (int m = 0; m < 4; m++) {
                by[m] = Math.max(0, by[m] - 2);
            }
            return by;
        }
    }

    private static class Saint extends Seated {
        @Override
        int[] longer(int sort, int left) {
            int[] by = super.longer(sort, left);
            for (int m = 0; m < 4; m++) {
                by[m] /= 2;
            }
            return by;
        }
    }

    private static final Plain[] KINDS = {new Plain(), new Tall(), new Seated(), new Widow(), new Saint()};

    private record Deed(int person, int sort, int weight, int day, boolean mended) {
        int left(int today, int fade) {
            int left = Math.max(0, weight - (today - day) / fade);
            return mended ? left / 2 : left;
        }

        Deed mend() {
            return new Deed(person, sort, weight, day, true);
        }
    }

    private record Person(int kind, int[] own) {
        Person twin() {
            return new Person(kind, own.clone());
        }
    }

    private record Past(List<Deed> deeds, int day, int draw) {
    }

    private static final class Town {
        List<Person> people = new ArrayList<>();
        List<int[]> suits = new ArrayList<>();
        List<Deed> deeds = new ArrayList<>();
        Deque<Past> past = new ArrayDeque<>();
        int day, fade = 5, ease = 1, draw = 1;

        Town twin() {
            Town t = new Town();
            people.forEach(p -> t.people.add(p.twin()));
            suits.forEach(s -> t.suits.add(s.clone()));
            t.deeds.addAll(deeds);
            t.past.addAll(past);
            t.day = day;
            t.fade = fade;
            t.ease = ease;
            t.draw = draw;
            return t;
        }

        void keep() {
            past.addLast(new Past(new ArrayList<>(deeds), day, draw));
            if (past.size() > 8) {
                past.removeFirst();
            }
        }
    }

    private record Row(int lane, long[] items) {
    }

    private Town town = new Town();
    private Town image;
    private final StringBuilder tape = new StringBuilder();
    private final Row[] sheets = new Row[4];

    private boolean noPerson(int p) {
        return p < 0 || p >= town.people.size();
    }

    private boolean noSuit(int s) {
        return s < 0 || s >= town.suits.size();
    }

    private boolean noDeed(int d) {
        return d < 0 || d >= town.deeds.size();
    }

    private static boolean out(int v, int least, int most) {
        return v < least || v > most;
    }

    int person(int kind, int v) {
        if (out(kind, 0, 4) || out(v, 10, 99)) {
            return BAD;
        }
        if (town.people.size() == 5) {
            return FULL;
        }
        town.people.add(new Person(kind, new int[] {v, v, v, v}));
        town.past.clear();
        return town.people.size() - 1;
    }

    int own(int person, int measure, int v) {
        if (noPerson(person) || out(measure, 0, 3) || out(v, 10, 99)) {
            return BAD;
        }
        int was = town.people.get(person).own[measure];
        town.people.get(person).own[measure] = v;
        return was;
    }

    int suit(int v) {
        if (out(v, 0, 199)) {
            return BAD;
        }
        if (town.suits.size() == 4) {
            return FULL;
        }
        town.suits.add(new int[] {v, v, v, v});
        town.past.clear();
        return town.suits.size() - 1;
    }

    int cut(int suit, int measure, int v) {
        if (noSuit(suit) || out(measure, 0, 3) || out(v, 0, 199)) {
            return BAD;
        }
        int was = town.suits.get(suit)[measure];
        town.suits.get(suit)[measure] = v;
        return was;
    }

    private int[] lengths(List<Deed> deeds, int person, int n) {
        int[] all = town.people.get(person).own.clone();
        for (Deed d : deeds) {
            if (d.person == person) {
                int[] by = KINDS[town.people.get(person).kind].longer(d.sort, d.left(town.day + n, town.fade));
                for (int m = 0; m < 4; m++) {
                    all[m] += by[m];
                }
            }
        }
        return all;
    }

    private int[] lengths(int person, int n) {
        return lengths(town.deeds, person, n);
    }

    private boolean fits(int[] lengths, int suit) {
        boolean fits = true;
        for (int m = 0; m < 4; m++) {
            fits &= Math.abs(lengths[m] - town.suits.get(suit)[m]) <= town.ease;
        }
        return fits;
    }

    private int shows(int[] lengths, int suit) {
        int shows = 0;
        for (int m = 0; m < 4; m++) {
            shows += Math.abs(lengths[m] - town.suits.get(suit)[m]);
        }
        return shows;
    }

    int of(int person, int what) {
        if (noPerson(person) || out(what, 0, 9)) {
            return BAD;
        }
        Person p = town.people.get(person);
        if (what == 9) {
            int set = 0;
            for (int d = 0; d < town.deeds.size(); d++) {
                set += town.deeds.get(d).person == person ? 1 << d : 0;
            }
            return set;
        }
        return what == 8 ? p.kind : what > 3 ? p.own[what - 4] : lengths(person, 0)[what];
    }

    int deed(int deed, int what) {
        if (noDeed(deed) || out(what, 0, 5)) {
            return BAD;
        }
        Deed d = town.deeds.get(deed);
        int[] all = {d.person, d.sort, d.weight, d.day, d.mended ? 1 : 0, d.left(town.day, town.fade)};
        return all[what];
    }

    int tries(int person, int suit, int what) {
        if (noPerson(person) || noSuit(suit) || out(what, 0, 1)) {
            return BAD;
        }
        return what == 0 ? shows(lengths(person, 0), suit) : fits(lengths(person, 0), suit) ? 1 : 0;
    }

    int rule(int what, int v) {
        if (out(what, 0, 1) || what == 0 && out(v, 1, 30) || what == 1 && out(v, 0, 9)) {
            return BAD;
        }
        int was = what == 0 ? town.fade : town.ease;
        if (what == 0) {
            town.fade = v;
        } else {
            town.ease = v;
        }
        return was;
    }

    int type(int letter) {
        if (out(letter, 32, 126)) {
            return BAD;
        }
        if (tape.length() == 130) {
            return FULL;
        }
        tape.append((char) letter);
        return tape.length();
    }

    /** A text is read as words: a sign, or up to three digits; each with its place; the last is the end. */
    private record Word(String text, int place) {
        boolean isNumber() {
            return !text.isEmpty() && Character.isDigit(text.charAt(0));
        }
    }

    private List<Word> words() {
        List<Word> words = new ArrayList<>();
        int k = 0;
        while (k < tape.length()) {
            int from = k++;
            if (Character.isDigit(tape.charAt(from))) {
                while (k < tape.length() && k - from < 3 && Character.isDigit(tape.charAt(k))) {
                    k++;
                }
            }
            if (tape.charAt(from) != ' ') {
                words.add(new Word(tape.substring(from, k), from));
            }
        }
        words.add(new Word("", tape.length()));
        return words;
    }

    /** What a word must be: a number (N least most), a sign; by what is read so far. */
    private static final class Wrong extends Exception {
        private static final long serialVersionUID = 1L;
        final int place;

        Wrong(int place) {
            super("wrong", null, false, false);
            this.place = place;
        }
    }

    private static int number(List<Word> words, int least, int most) throws Wrong {
        Word w = words.remove(0);
        if (!w.isNumber() || out(Integer.parseInt(w.text), least, most)) {
            throw new Wrong(w.place);
        }
        return Integer.parseInt(w.text);
    }

    private static String sign(List<Word> words, String allowed) throws Wrong {
        Word w = words.remove(0);
        if (w.isNumber() || !w.text.isEmpty() && !allowed.contains(w.text)
                || w.text.isEmpty() && !allowed.contains("\n")) {
            throw new Wrong(w.place);
        }
        return w.text;
    }

    private static int[] four(List<Word> words, int least, int most) throws Wrong {
        int[] four = new int[4];
        for (int m = 0; m < 4; m++) {
            if (m > 0) {
                sign(words, ".");
            }
            four[m] = number(words, least, most);
        }
        return four;
    }

    private Town readTown(List<Word> words) throws Wrong {
        Town t = new Town();
        t.ease = town.ease;
        t.draw = town.draw;
        t.fade = number(words, 1, 30);
        sign(words, ";");
        String between = ",";
        while (between.equals(",")) {
            int kind = "ptswh".indexOf(sign(words, "ptswh"));
            t.people.add(new Person(kind, four(words, 10, 99)));
            between = sign(words, t.people.size() < 5 ? ",;\n" : ";\n");
        }
        if (between.equals(";")) {
            between = ",";
            while (between.equals(",")) {
                t.suits.add(four(words, 0, 199));
                between = sign(words, t.suits.size() < 4 ? ",\n" : "\n");
            }
        }
        return t;
    }

    int wardrobe() {
        List<Word> words = words();
        tape.setLength(0);
        try {
            town = readTown(words);
            return town.people.size();
        } catch (Wrong w) {
            return -20 - w.place;
        }
    }

    private int leftOfAll() {
        return town.deeds.stream().mapToInt(d -> d.left(town.day, town.fade)).sum();
    }

    int count(int what) {
        if (out(what, 0, 8)) {
            return BAD;
        }
        int mended = 0;
        for (int d = 0; d < town.deeds.size(); d++) {
            mended += town.deeds.get(d).mended ? 1 << d : 0;
        }
        int[] all = {town.people.size(), town.suits.size(), town.deeds.size(), town.day, town.fade, town.ease, mended,
            leftOfAll(), town.past.size()};
        return all[what];
    }

    int does(int person, int sort, int weight) {
        if (noPerson(person) || out(sort, 0, 5) || out(weight, 1, 9)) {
            return BAD;
        }
        if (town.deeds.size() == 10) {
            return FULL;
        }
        town.keep();
        town.deeds.add(new Deed(person, sort, weight, town.day, false));
        return town.deeds.size() - 1;
    }

    int mend(int deed) {
        if (noDeed(deed)) {
            return BAD;
        }
        if (town.deeds.get(deed).mended) {
            return NOT;
        }
        town.keep();
        town.deeds.set(deed, town.deeds.get(deed).mend());
        return town.deeds.get(deed).left(town.day, town.fade);
    }

    int days(int n) {
        if (out(n, 1, 99)) {
            return BAD;
        }
        if (town.day + n > 9999) {
            return FULL;
        }
        for (int k = 0; k < n; k++) {
            town.keep();
            town.day++;
        }
        return leftOfAll();
    }

    int drift(int n) {
        if (out(n, 1, 99)) {
            return BAD;
        }
        if (town.day + n > 9999) {
            return FULL;
        }
        int made = 0;
        for (int k = 0; k < n; k++) {
            town.keep();
            long draw = (town.draw * 1103515245L + 12345L) % (1L << 31);
            town.draw = (int) draw;
            if (draw / 65536 % 3 == 0 && town.deeds.size() < 10 && !town.people.isEmpty()) {
                int who = (int) (draw / 65536 % town.people.size());
                town.deeds.add(new Deed(who, (int) (draw / 128 % 6), (int) (1 + draw / 1024 % 9), town.day, false));
                made++;
            }
            town.day++;
        }
        return made;
    }

    int undo() {
        if (town.past.isEmpty()) {
            return NONE;
        }
        Past p = town.past.removeLast();
        town.deeds = new ArrayList<>(p.deeds);
        town.day = p.day;
        town.draw = p.draw;
        return town.past.size();
    }

    int seed(int v) {
        if (v < 0) {
            return BAD;
        }
        int was = town.draw;
        town.draw = v;
        return was;
    }

    int ahead(int person, int measure, int n) {
        return noPerson(person) || out(measure, 0, 3) || out(n, 0, 99) ? BAD : lengths(person, n)[measure];
    }

    int showsAhead(int person, int suit, int n) {
        return noPerson(person) || noSuit(suit) || out(n, 0, 99) ? BAD : shows(lengths(person, n), suit);
    }

    int again(int person, int suit) {
        if (noPerson(person) || noSuit(suit)) {
            return BAD;
        }
        int n = 0;
        while (n < 100 && !fits(lengths(person, n), suit)) {
            n++;
        }
        return n == 100 ? NONE : n;
    }

    int wedding(int person, int suit, int n, int what) {
        if (noPerson(person) || noSuit(suit) || out(n, 0, 99) || out(what, 0, 1)) {
            return BAD;
        }
        int best = NONE;
        for (int set = 0; set < 1 << town.deeds.size(); set++) {
            if ((best < 0 || Integer.bitCount(set) < Integer.bitCount(best)) && canMend(set, person)
                    && fits(lengths(mendedBy(set), person, n), suit)) {
                best = set;
            }
        }
        return best < 0 ? NONE : what == 1 ? best : Integer.bitCount(best);
    }

    private boolean canMend(int set, int person) {
        boolean can = true;
        for (int d = 0; d < town.deeds.size(); d++) {
            Deed deed = town.deeds.get(d);
            can &= (set >> d & 1) == 0 || deed.person == person && !deed.mended;
        }
        return can;
    }

    private List<Deed> mendedBy(int set) {
        List<Deed> deeds = new ArrayList<>(town.deeds);
        for (int d = 0; d < deeds.size(); d++) {
            if ((set >> d & 1) == 1) {
                deeds.set(d, deeds.get(d).mend());
            }
        }
        return deeds;
    }

    int bestCut(int person, int measure, int n, int what) {
        if (noPerson(person) || out(measure, 0, 3) || out(n, 0, 40) || out(what, 0, 1)) {
            return BAD;
        }
        int[] far = new int[200];
        for (int k = 0; k <= n; k++) {
            int length = lengths(person, k)[measure];
            for (int c = 0; c < 200; c++) {
                far[c] += Math.abs(length - c);
            }
        }
        int best = 0;
        for (int c = 0; c < 200; c++) {
            best = far[c] < far[best] ? c : best;
        }
        return what == 0 ? best : far[best];
    }

    int wear(int person) {
        if (person != NONE && noPerson(person)) {
            return BAD;
        }
        int[] best = dress(new int[0]);
        return person == NONE ? dressed(best) : best[person] == 4 ? NONE : best[person];
    }

    private static int dressed(int[] suits) {
        int dressed = 0;
        for (int s : suits) {
            dressed += s < 4 ? 1 : 0;
        }
        return dressed;
    }

    /** Tries all, in order; 4 is none. */
    private int[] dress(int[] so) {
        if (so.length == town.people.size()) {
            return so;
        }
        int[] best = null;
        for (int s = 0; s <= 4; s++) {
            boolean may = s == 4 || !noSuit(s) && fits(lengths(so.length, 0), s);
            for (int other : so) {
                may &= s == 4 || other != s;
            }
            if (may) {
                int[] more = java.util.Arrays.copyOf(so, so.length + 1);
                more[so.length] = s;
                int[] all = dress(more);
                best = best == null || dressed(all) > dressed(best) ? all : best;
            }
        }
        return best;
    }

    int luck(int person, int suit, int what) {
        if (noPerson(person) || noSuit(suit) || out(what, 0, 1)) {
            return BAD;
        }
        int above = 0;
        for (int k = 0; k < 81; k++) {
            int[] read = lengths(person, 0);
            int errors = k;
            for (int m = 0; m < 4; m++) {
                read[m] += errors % 3 - 1;
                errors /= 3;
            }
            above += fits(read, suit) ? 1 : 0;
        }
        int by = 81;
        while (above % by != 0 || 81 % by != 0) {
            by--;
        }
        return what == 0 ? above / by : 81 / by;
    }

    int warrant(int n) {
        if (out(n, 1, 99)) {
            return BAD;
        }
        int set = 0;
        for (int p = 0; p < town.people.size(); p++) {
            int longest = 0;
            for (int m = 0; m < 4; m++) {
                longest = Math.max(longest, lengths(p, 0)[m] - town.people.get(p).own[m]);
            }
            set += longest >= n ? 1 << p : 0;
        }
        return set;
    }

    int image() {
        image = town.twin();
        return 1;
    }

    int restore() {
        if (image == null) {
            return NONE;
        }
        town = image.twin();
        return 1;
    }

    private int refusal(int sheet, int lane, long i, long n) {
        Row row = sheets[sheet];
        if (row == null) {
            return NULL;
        }
        return row.lane != lane ? CAST : i < 0 || i + n > row.items.length ? INDEX : 0;
    }

    int done(int person, int sheet, int lane, int i, int what) {
        if (noPerson(person) || out(sheet, 0, 3) || out(lane, 0, 3) || out(what, 0, 1)) {
            return BAD;
        }
        int refusal = refusal(sheet, lane, i, 4);
        if (refusal < 0) {
            return refusal;
        }
        int ways = 0;
        int first = NONE;
        for (int weight = 9; weight >= 1; weight--) {
            for (int set = 63; set >= 1; set--) {
                long[] by = new long[4];
                for (int sort = 0; sort < 6; sort++) {
                    int[] one = KINDS[town.people.get(person).kind].longer(sort, (set >> sort & 1) * weight);
                    for (int m = 0; m < 4; m++) {
                        by[m] += one[m];
                    }
                }
                if (java.util.Arrays.equals(by, 0, 4, sheets[sheet].items, i, i + 4)) {
                    ways++;
                    first = 100 * weight + set;
                }
            }
        }
        return what == 0 ? ways : first;
    }

    int film(int person, int measure, int n, int sheet, int lane, int i) {
        if (noPerson(person) || out(measure, 0, 3) || out(n, 1, 24) || out(sheet, 0, 3) || out(lane, 0, 3)) {
            return BAD;
        }
        int refusal = refusal(sheet, lane, i, n);
        if (refusal < 0) {
            return refusal;
        }
        for (int k = 1; k <= n; k++) {
            item(sheet, lane, i + k - 1, lengths(person, k)[measure]);
        }
        return n;
    }

    int sheet(int sheet, int lane, int n) {
        if (out(sheet, 0, 3) || out(lane, 0, 3) || n > 24) {
            return BAD;
        }
        if (n < 0) {
            return SIZE;
        }
        sheets[sheet] = new Row(lane, new long[n]);
        return n;
    }

    int drop(int sheet) {
        if (out(sheet, 0, 3)) {
            return BAD;
        }
        if (sheets[sheet] == null) {
            return NULL;
        }
        int had = sheets[sheet].items.length;
        sheets[sheet] = null;
        return had;
    }

    int item(int sheet, int lane, int i, long v) {
        if (out(sheet, 0, 3) || out(lane, 0, 3)) {
            return BAD;
        }
        int refusal = refusal(sheet, lane, i, 1);
        if (refusal < 0) {
            return refusal;
        }
        int lost = 64 - (8 << lane);
        sheets[sheet].items[i] = v << lost >> lost;
        return 1;
    }

    int copy(int from, int i, int to, int j, int n) {
        if (out(from, 0, 3) || out(to, 0, 3)) {
            return BAD;
        }
        Row a = sheets[from];
        Row b = sheets[to];
        if (a == null || b == null) {
            return NULL;
        }
        if (a.lane != b.lane) {
            return CAST;
        }
        if (n < 0 || i < 0 || j < 0 || (long) i + n > a.items.length || (long) j + n > b.items.length) {
            return INDEX;
        }
        long[] taken = a.items.clone();
        for (int k = 0; k < n; k++) {
            b.items[j + k] = taken[i + k];
        }
        return n;
    }
}
