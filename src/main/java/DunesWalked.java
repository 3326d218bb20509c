import java.util.Arrays;

/** A parish that dunes walk over; what every call promises stands in the project's document. */
public final class DunesWalked {
    public static final int NONE = -1, BAD = -2, STATE = -3, FULL = -4;
    public static final long NO = -4611686018427387904L;

    private static final int NO_SUCH = -5, WRONG = -7;
    private static final int NOTHING = -11, OUTSIDE = -12, UNLIKE = -13, BELOW_ZERO = -14;
    private static final int NO_DUNE = -1000, FAULTS = -100;
    /** No refusal. */
    private static final int FINE = 0;

    private static final int YARDS = 40, LAST_YARD = 39, LONGEST = 9, HIGHEST = 99;
    private static final int DUNES = 6, TEXTS = 6, SHEETS = 4, CELLS = 40, TAPE = 160;
    private static final int LAST_YEAR = 999, YEARS = 40, BEST_YEARS = 20, TOLD_YEARS = 20;
    private static final int WIND_YEARS = 6, LAST_SEED = 99999, SEEDS = 40, MOST_BURIED = 999;
    private static final long LOT_TIMES = 48271, LOT_MODULO = 2147483647;

    /** The kinds, numbered as the document does; HEIGHT is what taken() calls 6. */
    private static final int WALKED = 1, BLOND = 2, ABELS = 3, GALE = 4, STILL = 5, HEIGHT = 6;
    private static final int KINDS = 6, MORES = 10, BLOND_HIGH = 50;

    /** What may be told of a dune, numbered as in told(). */
    private static final int OF_FRONT = 0, OF_LONG = 1, OF_HIGH = 2, OF_KIND = 3, OF_MORE = 4;

    private static final int MISSING = -1, BYTES = 0, SHORTS = 1, INTS = 2;

    private static final int WALKS_PART = 0, GROWS_PART = 1, NEEDS_PART = 2;

    /** Tokens: a number is its own value, so the names begin above every number. */
    private static final int NAME_HIGH = 10000, NAME_AT = 10001, NAME_LONG = 10002,
        NAME_CLOVER = 10003, NAME_YEAR = 10004, NAME_MORE = 10005, LAST_NAME = 10005;
    private static final int OR = 10006, AND = 10007, LESS = 10008, EQUAL = 10009,
        PLUS = 10010, MINUS = 10011, TIMES = 10012, NOT = 10013, NEGATE = 10014;
    private static final int KEY_WALKS = 10015, KEY_GROWS = 10016, KEY_NEEDS = 10017,
        OPEN = 10018, CLOSE = 10019, SEMICOLON = 10020, END = 10021, UNKNOWN = 10022;
    private static final int LONGEST_NUMBER = 4, MOST_OPEN = 5;

    /** 5 brackets make 6 levels; a level keeps one number for each of or, and, compare, sum, term. */
    private static final int STACK = 32;

    private final Law[] texts = new Law[TEXTS];
    private int textsKnown;
    private final Tape tape = new Tape();
    private final Land now;
    /** What is asked is tried out here, so that the land that is stays as it is. */
    private final Land thought;
    /** THE IMAGE; null while there is none. */
    private Land kept;
    private final Sheet[] sheets = new Sheet[SHEETS];
    private final int[] yearsUnder = new int[YARDS];

    public DunesWalked() {
        for (int s = 0; s < sheets.length; s++) {
            sheets[s] = new Sheet();
        }
        // walks 2 ; grows 1 - 9 * clover ; needs 1 ; as the tape would read it
        Law law = new Law(0, new int[] {2}, new int[] {1, 9, NAME_CLOVER, TIMES, MINUS}, new int[] {1});
        texts[0] = law;
        textsKnown = 1;
        now = new Land(law);
        thought = new Land(law);
    }

    // ---- the parish, the law, dunes

    public int count(int what) {
        switch (what) {
            case 0: return now.many;
            case 1: return Integer.bitCount(now.living());
            case 2: return now.year;
            case 3: return Long.bitCount(now.houses);
            case 4: return Long.bitCount(now.clover);
            case 5: return textsKnown;
            case 6: return now.law.number;
            case 7: return tape.size;
            default: return BAD;
        }
    }

    public int yard(int y, int what, int is) {
        if (!within(y, 0, LAST_YARD)) {
            return NO_SUCH;
        }
        if (!within(what, 0, 1) || !within(is, 0, 1)) {
            return WRONG;
        }
        long bit = 1L << y;
        long was = what == 0 ? now.houses : now.clover;
        long will = is == 1 ? was | bit : was & ~bit;
        if (what == 0) {
            now.houses = will;
        } else {
            now.clover = will;
        }
        return (was & bit) != 0 ? 1 : 0;
    }

    public long parish(int what) {
        switch (what) {
            case 0: return now.houses;
            case 1: return now.clover;
            case 2: return now.sand();
            case 3: return now.houses & now.sand();
            default: return NO;
        }
    }

    public int feed(int n, int a, int b, int c, int d, int e) {
        if (!within(n, 1, 5) || !isByte(a) || !isByte(b) || !isByte(c) || !isByte(d) || !isByte(e)) {
            return BAD;
        }
        if (tape.size + n > TAPE) {
            return FULL;
        }
        tape.append(a);
        if (n > 1) {
            tape.append(b);
        }
        if (n > 2) {
            tape.append(c);
        }
        if (n > 3) {
            tape.append(d);
        }
        if (n > 4) {
            tape.append(e);
        }
        return tape.size;
    }

    public int text() {
        if (textsKnown >= texts.length) {
            return FULL;
        }
        Law law = tape.toLaw(textsKnown);
        if (law == null) {
            return FAULTS - tape.fault;
        }
        texts[textsKnown] = law;
        textsKnown++;
        return law.number;
    }

    public int force(int t) {
        Law law = lawAt(t);
        if (law == null) {
            return BAD;
        }
        int was = now.law.number;
        now.law = law;
        return was;
    }

    public int asks(int part, int d) {
        Dune dune = now.standing(d);
        if (!within(part, WALKS_PART, NEEDS_PART) || dune == null) {
            return NO_DUNE;
        }
        return now.says(part, dune);
    }

    public int dune(int kindMore, int atSizeHigh) {
        if (!within(kindMore, 0, KINDS * 10 - 1) || !within(atSizeHigh, 0, YARDS * 10000 - 1)) {
            return BAD;
        }
        int size = atSizeHigh / 1000 % 10;
        int high = atSizeHigh % 1000;
        if (size == 0 || high > HIGHEST) {
            return BAD;
        }
        if (now.many >= now.dunes.length) {
            return FULL;
        }
        Dune dune = now.dunes[now.many];
        dune.kind = kindMore / 10;
        dune.more = kindMore % 10;
        dune.front = atSizeHigh / 10000;
        dune.size = size;
        dune.high = high;
        dune.gone = false;
        now.many++;
        return dune.number;
    }

    public int put(int d, int what, int v) {
        Dune dune = now.standing(d);
        if (dune == null) {
            return NO_SUCH;
        }
        if (!within(what, OF_FRONT, OF_HIGH) || !within(v, leastOf(what), mostOf(what))) {
            return WRONG;
        }
        int was = dune.quality(what);
        dune.change(what, v);
        return was;
    }

    public int told(int d, int what) {
        Dune dune = now.standing(d);
        if (dune == null) {
            return NO_SUCH;
        }
        switch (what) {
            case OF_FRONT: case OF_LONG: case OF_HIGH: case OF_KIND: case OF_MORE:
                return dune.quality(what);
            case 5: return now.onClover(dune) ? 1 : 0;
            case 6: return now.stride(dune);
            case 7: return now.need(dune);
            case 8: return Long.bitCount(now.houses & dune.yards());
            default: return WRONG;
        }
    }

    public int grows(int d) {
        Dune dune = now.standing(d);
        return dune == null ? NO_DUNE : now.growth(dune);
    }

    // ---- years

    public int year() {
        if (now.year >= LAST_YEAR) {
            return STATE;
        }
        int before = now.living();
        now.pass();
        return before & ~now.living();
    }

    public int run(int n, int what) {
        boolean ofDune = now.standing(what - 10) != null || now.standing(what - 20) != null;
        if (!within(n, 0, YEARS) || !within(what, 0, 2) && !ofDune) {
            return BAD;
        }
        thought.become(now);
        int together = passInThought(n);
        switch (what) {
            case 0: return thought.living();
            case 1: return thought.buried();
            case 2: return together;
            default: return ofDuneInThought(what);
        }
    }

    private int ofDuneInThought(int what) {
        boolean ofFront = what < 20;
        Dune dune = thought.standing(ofFront ? what - 10 : what - 20);
        if (dune == null) {
            return NONE;
        }
        return ofFront ? dune.front : dune.high;
    }

    public int comes(int y, int what) {
        if (!within(y, 0, LAST_YARD)) {
            return NO_SUCH;
        }
        if (!within(what, 0, 2)) {
            return WRONG;
        }
        int when = NONE;
        int onEnd = 0;
        int under = NONE;
        thought.become(now);
        for (int t = 0; t <= YEARS; t++) {
            int over = thought.firstOver(y);
            if (when == NONE && over != NONE) {
                when = t;
                under = over;
            }
            if (when != NONE && over == NONE) {
                break;
            }
            if (when != NONE) {
                onEnd++;
            }
            thought.pass();
        }
        return what == 0 ? when : what == 1 ? onEnd : under;
    }

    public int ends(int d) {
        if (now.standing(d) == null) {
            return NO_SUCH;
        }
        thought.become(now);
        for (int t = 1; t <= YEARS; t++) {
            thought.pass();
            if (thought.standing(d) == null) {
                return t;
            }
        }
        return NONE;
    }

    public int first(int what) {
        if (!within(what, 0, 1)) {
            return BAD;
        }
        thought.become(now);
        for (int t = 0; t <= YEARS; t++) {
            for (Dune dune : thought.dunes) {
                if (dune.frontOrGone() == LAST_YARD) {
                    return what == 0 ? dune.number : t;
                }
            }
            thought.pass();
        }
        return NONE;
    }

    // ---- what is best

    public int sow(int n, int what) {
        if (!within(n, 0, BEST_YEARS) || !within(what, 0, 1)) {
            return BAD;
        }
        thought.become(now);
        int least = passInThought(n);
        int best = NONE;
        for (int y = 0; y < YARDS; y++) {
            long bit = 1L << y;
            if ((now.clover & bit) == 0) {
                thought.become(now);
                thought.clover = now.clover | bit;
                int together = passInThought(n);
                if (together < least) {
                    least = together;
                    best = y;
                }
            }
        }
        return what == 0 ? best : least;
    }

    /** No dune heeds houses: one run that counts how long each yard is under sand serves every move. */
    public int move(int n, int what) {
        if (!within(n, 0, BEST_YEARS) || !within(what, 0, 1)) {
            return BAD;
        }
        int asItIs = countYearsUnder(n);
        int least = asItIs;
        int best = NONE;
        for (int from = 0; from < yearsUnder.length; from++) {
            for (int to = 0; to < yearsUnder.length; to++) {
                boolean mayMove = now.hasHouse(from) && !now.hasHouse(to);
                int together = asItIs - yearsUnder[from] + yearsUnder[to];
                if (mayMove && together < least) {
                    least = together;
                    best = 100 * from + to;
                }
            }
        }
        return what == 0 ? best : least;
    }

    public int hold(int n, int what) {
        if (!within(n, 0, YEARS) || !within(what, 0, 1)) {
            return BAD;
        }
        thought.become(now);
        int least = passInThought(n);
        int best = NONE;
        for (int d = 0; d < now.many; d++) {
            thought.become(now);
            Dune dune = thought.standing(d);
            if (dune != null) {
                dune.gone = true;
                int together = passInThought(n);
                if (together < least) {
                    least = together;
                    best = d;
                }
            }
        }
        return what == 0 ? best : least;
    }

    public long share(int n, int part) {
        if (!within(n, 0, YEARS) || !within(part, 0, 1) || now.houses == 0) {
            return NO;
        }
        thought.become(now);
        passInThought(n);
        return inLowestTerms(thought.buried(), Long.bitCount(now.houses), part);
    }

    // ---- told years

    public int judge(int s, int d) {
        Sheet sheet = sheetAt(s);
        int refusal = refusalOf(sheet, d);
        if (refusal != FINE) {
            return refusal;
        }
        thought.become(now);
        return firstOtherwise(sheet, thought.standing(d));
    }

    public int kinds(int s, int d, int sort) {
        Sheet sheet = sheetAt(s);
        int refusal = refusalOf(sheet, d);
        if (refusal != FINE) {
            return refusal;
        }
        if (!within(sort, 0, 1)) {
            return WRONG;
        }
        int bits = 0;
        for (int v = 0; v < (sort == 0 ? KINDS : MORES); v++) {
            if (fitsWith(sheet, d, sort == 0 ? OF_KIND : OF_MORE, v)) {
                bits |= 1 << v;
            }
        }
        return bits;
    }

    public int states(int s, int d, int sort, int what) {
        Sheet sheet = sheetAt(s);
        int refusal = refusalOf(sheet, d);
        if (refusal != FINE) {
            return refusal;
        }
        if (!within(sort, OF_FRONT, OF_HIGH) || !within(what, 0, 1)) {
            return WRONG;
        }
        int fitting = 0;
        int least = NONE;
        for (int v = leastOf(sort); v <= mostOf(sort); v++) {
            if (fitsWith(sheet, d, sort, v)) {
                fitting++;
                least = least == NONE ? v : least;
            }
        }
        return what == 0 ? fitting : least;
    }

    public int whose(int s) {
        Sheet sheet = sheetAt(s);
        int refusal = refusalOfSheet(sheet);
        if (refusal != FINE) {
            return refusal;
        }
        int bits = 0;
        for (int d = 0; d < now.many; d++) {
            thought.become(now);
            Dune dune = thought.standing(d);
            if (dune != null && firstOtherwise(sheet, dune) == NONE) {
                bits |= 1 << d;
            }
        }
        return bits;
    }

    public int laws(int s, int d) {
        Sheet sheet = sheetAt(s);
        int refusal = refusalOf(sheet, d);
        if (refusal != FINE) {
            return refusal;
        }
        int bits = 0;
        for (int t = 0; t < textsKnown; t++) {
            if (fitsUnder(sheet, d, lawAt(t))) {
                bits |= 1 << t;
            }
        }
        return bits;
    }

    public int film(int s, int d, int n) {
        Sheet sheet = sheetAt(s);
        if (sheet == null) {
            return BAD;
        }
        if (now.standing(d) == null) {
            return NO_SUCH;
        }
        if (!within(n, 0, TOLD_YEARS)) {
            return WRONG;
        }
        sheet.becomeRow(BYTES, n);
        thought.become(now);
        Dune dune = thought.standing(d);
        for (int t = 0; t < n && dune != null; t++) {
            thought.pass();
            sheet.write(t, dune.frontOrGone());
        }
        return n;
    }

    // ---- winds by lots

    public int drawn(int seed, int what) {
        if (!within(seed, 0, LAST_SEED) || !within(what, 0, 1)) {
            return BAD;
        }
        int together = blowInThought(seed);
        return what == 0 ? together : thought.living();
    }

    public long odds(int seed, int seeds, int least, int part) {
        boolean seedsFine = within(seed, 0, LAST_SEED) && within(seeds, 1, SEEDS);
        if (!seedsFine || !within(least, 0, MOST_BURIED) || !within(part, 0, 1)) {
            return NO;
        }
        int enough = 0;
        for (int i = 0; i < seeds; i++) {
            if (blowInThought(seed + i) >= least) {
                enough++;
            }
        }
        return inLowestTerms(enough, seeds, part);
    }

    public int image() {
        if (kept == null) {
            kept = new Land(now.law);
        }
        kept.become(now);
        return kept.many;
    }

    public int back() {
        if (kept == null) {
            return STATE;
        }
        now.become(kept);
        return now.many;
    }

    // ---- the host

    public int sheet(int s, int sort, int n) {
        Sheet sheet = sheetAt(s);
        if (sheet == null || !within(sort, MISSING, INTS)) {
            return BAD;
        }
        if (sort == MISSING) {
            sheet.becomeRow(MISSING, 0);
            return 1;
        }
        if (n > CELLS) {
            return BAD;
        }
        if (n < 0) {
            return BELOW_ZERO;
        }
        sheet.becomeRow(sort, n);
        return 1;
    }

    public int cell(int s, int i, int v) {
        Sheet sheet = sheetAt(s);
        if (sheet == null) {
            return BAD;
        }
        if (sheet.sort == MISSING) {
            return NOTHING;
        }
        if (!within(i, 0, sheet.size - 1)) {
            return OUTSIDE;
        }
        sheet.write(i, v);
        return 1;
    }

    public int copy(int s, int i, int other, int j, int n) {
        Sheet from = sheetAt(s);
        Sheet to = sheetAt(other);
        if (from == null || to == null) {
            return BAD;
        }
        if (from.sort == MISSING || to.sort == MISSING) {
            return NOTHING;
        }
        if (from.sort != to.sort) {
            return UNLIKE;
        }
        if (!from.hasPlaces(i, n) || !to.hasPlaces(j, n)) {
            return OUTSIDE;
        }
        System.arraycopy(from.row, i, to.row, j, n);
        return n;
    }

    public int dunesBy(int s, int sort, int from, int n) {
        Sheet sheet = sheetAt(s);
        if (sheet == null || !within(sort, BYTES, INTS) || !within(n, 0, DUNES)) {
            return BAD;
        }
        if (sheet.sort == MISSING) {
            return NOTHING;
        }
        if (sheet.sort != sort) {
            return UNLIKE;
        }
        int came = 0;
        for (int k = 0; k < n; k++) {
            int place = from + 2 * k;
            if (!sheet.hasPlaces(place, 2)) {
                return OUTSIDE;
            }
            if (dune(sheet.row[place], sheet.row[place + 1]) >= 0) {
                came++;
            }
        }
        return came;
    }

    public int taken(int i, int kind) {
        if (!within(kind, 0, HEIGHT)) {
            return BAD;
        }
        if (!within(i, 0, 2 * DUNES - 1)) {
            return OUTSIDE;
        }
        int d = i % DUNES;
        if (d >= now.many) {
            return NOTHING;
        }
        Dune dune = now.dunes[d];
        if (i >= DUNES) {
            return kind == HEIGHT ? dune.high : UNLIKE;
        }
        return kind != HEIGHT && dune.isOf(kind) ? d : UNLIKE;
    }

    // ---- what serves several calls

    private static boolean within(int v, int least, int most) {
        return v >= least && v <= most;
    }

    private static int bounded(int v, int least, int most) {
        return v < least ? least : v > most ? most : v;
    }

    private static boolean isByte(int v) {
        return within(v, 0, 255);
    }

    private static int leastOf(int what) {
        return what == OF_LONG ? 1 : 0;
    }

    private static int mostOf(int what) {
        return what == OF_FRONT ? LAST_YARD : what == OF_LONG ? LONGEST : HIGHEST;
    }

    /** Null: no such TEXT. */
    private Law lawAt(int t) {
        return t >= 0 && t < textsKnown && t < texts.length ? texts[t] : null;
    }

    /** Null: no such SHEET. */
    private Sheet sheetAt(int s) {
        return s >= 0 && s < sheets.length ? sheets[s] : null;
    }

    private static int refusalOfSheet(Sheet sheet) {
        if (sheet == null) {
            return BAD;
        }
        if (sheet.sort == MISSING) {
            return NOTHING;
        }
        return sheet.size > TOLD_YEARS ? BAD : FINE;
    }

    private int refusalOf(Sheet sheet, int d) {
        int refusal = refusalOfSheet(sheet);
        return refusal == FINE && now.standing(d) == null ? NO_SUCH : refusal;
    }

    /** Passes years in thought; answers how many houses are buried behind each of them, together. */
    private int passInThought(int n) {
        int together = 0;
        for (int t = 0; t < n; t++) {
            thought.pass();
            together += thought.buried();
        }
        return together;
    }

    /** As passInThought from now on, but also counts for each yard behind how many years it is under sand. */
    private int countYearsUnder(int n) {
        Arrays.fill(yearsUnder, 0);
        thought.become(now);
        int together = 0;
        for (int t = 0; t < n; t++) {
            together += passInThought(1);
            long sand = thought.sand();
            for (int y = 0; y < yearsUnder.length; y++) {
                yearsUnder[y] += (int) (sand >> y & 1);
            }
        }
        return together;
    }

    /** Whether the sheet tells the years of dune d, were one thing of it otherwise now. */
    private boolean fitsWith(Sheet sheet, int d, int what, int v) {
        thought.become(now);
        Dune dune = thought.standing(d);
        if (dune == null) {
            return false;
        }
        dune.change(what, v);
        return firstOtherwise(sheet, dune) == NONE;
    }

    private boolean fitsUnder(Sheet sheet, int d, Law law) {
        if (law == null) {
            return false;
        }
        thought.become(now);
        thought.law = law;
        return firstOtherwise(sheet, thought.standing(d)) == NONE;
    }

    /** The first number of a sheet that a dune of the land in thought does not bear out. */
    private int firstOtherwise(Sheet sheet, Dune dune) {
        if (sheet == null || dune == null) {
            return NONE;
        }
        for (int t = 0; t < sheet.size && t < sheet.row.length; t++) {
            thought.pass();
            if (sheet.row[t] != dune.frontOrGone()) {
                return t;
            }
        }
        return NONE;
    }

    private int blowInThought(int seed) {
        thought.become(now);
        int together = 0;
        long lot = seed + 1L;
        for (int t = 0; t < WIND_YEARS; t++) {
            lot = lot * LOT_TIMES % LOT_MODULO;
            Dune dune = thought.standing((int) (lot % DUNES));
            lot = lot * LOT_TIMES % LOT_MODULO;
            if (dune != null) {
                dune.walk((int) (lot % 4));
            }
            together += passInThought(1);
        }
        return together;
    }

    private static long inLowestTerms(int above, int below, int part) {
        int common = 1;
        for (int k = 2; k <= below; k++) {
            if (above % k == 0 && below % k == 0) {
                common = k;
            }
        }
        return (part == 0 ? above : below) / common;
    }

    /** One dune. A number that no dune has yet is gone, so that nobody need ask for both. */
    private static final class Dune {
        final int number;
        int kind;
        int more;
        int front;
        int size;
        int high;
        boolean gone;

        Dune(int number) {
            this.number = number;
            this.size = 1;
            this.gone = true;
        }

        void become(Dune other) {
            kind = other.kind;
            more = other.more;
            front = other.front;
            size = other.size;
            high = other.high;
            gone = other.gone;
        }

        /** Bit y: it lies on yard y. */
        long yards() {
            int hindmost = front - size + 1;
            return (1L << front + 1) - (1L << (hindmost < 0 ? 0 : hindmost));
        }

        int quality(int what) {
            switch (what) {
                case OF_FRONT: return front;
                case OF_LONG: return size;
                case OF_HIGH: return high;
                case OF_KIND: return kind;
                default: return more;
            }
        }

        void change(int what, int v) {
            switch (what) {
                case OF_FRONT: front = v; break;
                case OF_LONG: size = v; break;
                case OF_HIGH: high = v; break;
                case OF_KIND: kind = v; break;
                default: more = v; break;
            }
        }

        int frontOrGone() {
            return gone ? NONE : front;
        }

        boolean isOf(int asked) {
            return asked == 0 || asked == kind
                || asked == WALKED && kind == ABELS || asked == BLOND && kind == GALE;
        }

        void walk(int further) {
            front = bounded(front + further, 0, LAST_YARD);
        }

        void rise(int by) {
            high = bounded(high + by, 0, HIGHEST);
        }
    }

    /** The parish with its dunes at one time: as it is, in thought, or in the image. */
    private static final class Land {
        final Dune[] dunes = new Dune[DUNES];
        int many;
        long houses;
        long clover;
        int year;
        Law law;
        private final int[] stack = new int[STACK];

        Land(Law law) {
            this.law = law;
            for (int d = 0; d < dunes.length; d++) {
                dunes[d] = new Dune(d);
            }
        }

        void become(Land other) {
            for (int d = 0; d < dunes.length && d < other.dunes.length; d++) {
                dunes[d].become(other.dunes[d]);
            }
            many = other.many;
            houses = other.houses;
            clover = other.clover;
            year = other.year;
            law = other.law;
        }

        /** Null: no such dune, or it is gone. */
        Dune standing(int d) {
            return d < 0 || d >= dunes.length || dunes[d].gone ? null : dunes[d];
        }

        int living() {
            int bits = 0;
            for (Dune dune : dunes) {
                bits |= dune.gone ? 0 : 1 << dune.number;
            }
            return bits;
        }

        long sand() {
            long yards = 0;
            for (Dune dune : dunes) {
                yards |= dune.gone ? 0 : dune.yards();
            }
            return yards;
        }

        int buried() {
            return Long.bitCount(houses & sand());
        }

        boolean hasHouse(int y) {
            return (houses >> y & 1) == 1;
        }

        boolean onClover(Dune dune) {
            return (clover & dune.yards()) != 0;
        }

        int firstOver(int y) {
            for (Dune dune : dunes) {
                if (!dune.gone && (dune.yards() >> y & 1) == 1) {
                    return dune.number;
                }
            }
            return NONE;
        }

        /** One year. */
        void pass() {
            for (Dune dune : dunes) {
                if (!dune.gone) {
                    dune.walk(stride(dune));
                    takeUp(dune);
                    dune.rise(growth(dune));
                    dune.gone = dune.high < need(dune);
                }
            }
            year++;
        }

        private void takeUp(Dune dune) {
            long yards = dune.yards();
            for (Dune other : dunes) {
                boolean met = other.number != dune.number && !other.gone && (other.yards() & yards) != 0;
                if (met && other.high <= dune.high) {
                    other.gone = true;
                    dune.rise(other.high / 2);
                }
            }
        }

        int stride(Dune dune) {
            int said = says(WALKS_PART, dune);
            switch (dune.kind) {
                case WALKED: return Math.min(said, dune.more);
                case BLOND: return blondStride(dune, said);
                case ABELS: return (year & 1) == 0 ? Math.min(said, dune.more) : 0;
                case GALE: return 2 * blondStride(dune, said);
                case STILL: return 0;
                default: return said;
            }
        }

        private static int blondStride(Dune dune, int said) {
            return dune.high > BLOND_HIGH ? said / 2 : said + 1;
        }

        int growth(Dune dune) {
            int said = says(GROWS_PART, dune);
            switch (dune.kind) {
                case WALKED: case ABELS: return onClover(dune) ? said / 2 : said;
                case GALE: return said - dune.more;
                case STILL: return onClover(dune) ? -dune.more : 0;
                default: return said;
            }
        }

        int need(Dune dune) {
            switch (dune.kind) {
                case BLOND: case GALE: return says(NEEDS_PART, dune) + dune.more;
                case ABELS: return 0;
                default: return says(NEEDS_PART, dune);
            }
        }

        int says(int part, Dune dune) {
            int cloverSaid = onClover(dune) ? 1 : 0;
            switch (part) {
                case WALKS_PART: return bounded(reckon(law.walks, dune, cloverSaid), 0, 9);
                case GROWS_PART: return bounded(reckon(law.grows, dune, cloverSaid), -99, 99);
                default: return bounded(reckon(law.needs, dune, cloverSaid), 0, 99);
            }
        }

        /** The tape makes no code that would fail these looks at the stack. */
        private int reckon(int[] code, Dune dune, int cloverSaid) {
            int top = -1;
            for (int op : code) {
                if (op <= LAST_NAME) {
                    top++;
                    if (top >= stack.length) {
                        return 0;
                    }
                    stack[top] = op < NAME_HIGH ? op : named(op, dune, cloverSaid);
                } else if (op == NOT || op == NEGATE) {
                    if (top < 0) {
                        return 0;
                    }
                    stack[top] = op == NEGATE ? -stack[top] : stack[top] == 0 ? 1 : 0;
                } else {
                    top--;
                    if (top < 0) {
                        return 0;
                    }
                    stack[top] = joined(op, stack[top], stack[top + 1]);
                }
            }
            return top < 0 ? 0 : stack[top];
        }

        private int named(int name, Dune dune, int cloverSaid) {
            switch (name) {
                case NAME_HIGH: return dune.high;
                case NAME_AT: return dune.front;
                case NAME_LONG: return dune.size;
                case NAME_CLOVER: return cloverSaid;
                case NAME_YEAR: return year;
                default: return dune.more;
            }
        }

        private static int joined(int op, int a, int b) {
            switch (op) {
                case OR: return a != 0 || b != 0 ? 1 : 0;
                case AND: return a != 0 && b != 0 ? 1 : 0;
                case LESS: return a < b ? 1 : 0;
                case EQUAL: return a == b ? 1 : 0;
                case PLUS: return a + b;
                case MINUS: return a - b;
                default: return a * b;
            }
        }
    }

    /** A text that was read: each part a row of tokens, operators behind what they join. */
    private static final class Law {
        final int number;
        final int[] walks;
        final int[] grows;
        final int[] needs;

        Law(int number, int[] walks, int[] grows, int[] needs) {
            this.number = number;
            this.walks = walks;
            this.grows = grows;
            this.needs = needs;
        }
    }

    /** A row of numbers of a sort, or missing. The numbers are ints cut to their sort when they are written. */
    private static final class Sheet {
        int sort = MISSING;
        int size;
        final int[] row = new int[CELLS];

        void becomeRow(int sort, int size) {
            this.sort = sort;
            this.size = size;
            Arrays.fill(row, 0);
        }

        void write(int i, int v) {
            if (i >= 0 && i < row.length) {
                row[i] = sort == BYTES ? (byte) v : sort == SHORTS ? (short) v : v;
            }
        }

        /** Written so that no sum can wrap. */
        boolean hasPlaces(int from, int n) {
            return from >= 0 && n >= 0 && n <= size && from <= size - n;
        }
    }

    /** THE TAPE, and how a law is read from it: token by token, each method one rule of the grammar. */
    private static final class Tape {
        private final byte[] bytes = new byte[TAPE];
        int size;
        /** Where the token at hand begins, and where the one behind it is looked for. */
        private int place;
        private int next;
        private int token;
        /** The place of the first fault; NONE while there is none. */
        int fault;
        /** A token makes one step of code at most, and has one byte at least. */
        private final int[] code = new int[TAPE];
        private int used;

        void append(int b) {
            if (size < bytes.length) {
                bytes[size] = (byte) b;
                size++;
            }
        }

        /** Empties the tape; null: it has a fault. */
        Law toLaw(int number) {
            fault = NONE;
            used = 0;
            next = 0;
            step();
            part(KEY_WALKS);
            int growsFrom = used;
            part(KEY_GROWS);
            int needsFrom = used;
            part(KEY_NEEDS);
            expect(END);
            size = 0;
            if (fault != NONE) {
                return null;
            }
            return new Law(number, Arrays.copyOfRange(code, 0, growsFrom),
                Arrays.copyOfRange(code, growsFrom, needsFrom), Arrays.copyOfRange(code, needsFrom, used));
        }

        private void part(int key) {
            expect(key);
            either(0);
            expect(SEMICOLON);
        }

        private void either(int open) {
            both(open);
            for (int i = 0; i < TAPE && token == OR; i++) {
                step();
                both(open);
                emit(OR);
            }
        }

        private void both(int open) {
            denial(open);
            for (int i = 0; i < TAPE && token == AND; i++) {
                step();
                denial(open);
                emit(AND);
            }
        }

        private void denial(int open) {
            if (token == NOT) {
                if (open >= MOST_OPEN) {
                    fail();
                    return;
                }
                step();
                denial(open + 1);
                emit(NOT);
                return;
            }
            sum(open);
            if (token == LESS || token == EQUAL) {
                int sign = token;
                step();
                sum(open);
                emit(sign);
            }
        }

        private void sum(int open) {
            term(open);
            for (int i = 0; i < TAPE && (token == PLUS || token == MINUS); i++) {
                int sign = token;
                step();
                term(open);
                emit(sign);
            }
        }

        private void term(int open) {
            one(open);
            for (int i = 0; i < TAPE && token == TIMES; i++) {
                step();
                one(open);
                emit(TIMES);
            }
        }

        private void one(int open) {
            if (token <= LAST_NAME) {
                emit(token);
                step();
            } else if (token == MINUS && open < MOST_OPEN) {
                step();
                one(open + 1);
                emit(NEGATE);
            } else if (token == OPEN && open < MOST_OPEN) {
                step();
                either(open + 1);
                expect(CLOSE);
            } else {
                fail();
            }
        }

        private void expect(int wanted) {
            if (token == wanted) {
                step();
            } else {
                fail();
            }
        }

        /** Behind a fault no rule takes a token any more, so the place stays that of the first one. */
        private void fail() {
            fault = place;
            token = UNKNOWN;
        }

        private void emit(int op) {
            if (used < code.length) {
                code[used] = op;
                used++;
            }
        }

        private void step() {
            while (next < size && isBlank(byteAt(next))) {
                next++;
            }
            place = next;
            int b = byteAt(place);
            if (isDigit(b)) {
                readNumber();
            } else if (isLetter(b)) {
                readWord();
            } else {
                token = place >= size ? END : sign(b);
                next = place + 1;
            }
        }

        private void readNumber() {
            int value = 0;
            while (next < size && isDigit(byteAt(next))) {
                value = value * 10 + byteAt(next) - '0';
                next++;
            }
            token = next - place > LONGEST_NUMBER ? UNKNOWN : value;
        }

        private void readWord() {
            while (next < size && isLetter(byteAt(next))) {
                next++;
            }
            token = spells("walks") ? KEY_WALKS : spells("grows") ? KEY_GROWS : spells("needs") ? KEY_NEEDS
                : spells("or") ? OR : spells("and") ? AND : spells("not") ? NOT
                : spells("high") ? NAME_HIGH : spells("at") ? NAME_AT : spells("long") ? NAME_LONG
                : spells("clover") ? NAME_CLOVER : spells("year") ? NAME_YEAR : spells("more") ? NAME_MORE
                : UNKNOWN;
        }

        private boolean spells(String word) {
            if (next - place != word.length() || place < 0 || next > bytes.length) {
                return false;
            }
            for (int i = 0; i < word.length(); i++) {
                if (bytes[place + i] != word.charAt(i)) {
                    return false;
                }
            }
            return true;
        }

        private static int sign(int b) {
            switch (b) {
                case '(': return OPEN;
                case ')': return CLOSE;
                case ';': return SEMICOLON;
                case '+': return PLUS;
                case '-': return MINUS;
                case '*': return TIMES;
                case '<': return LESS;
                case '=': return EQUAL;
                default: return UNKNOWN;
            }
        }

        /** -1 behind the last one: no letter, digit, blank or sign. */
        private int byteAt(int i) {
            return i >= 0 && i < size && i < bytes.length ? bytes[i] & 255 : -1;
        }

        private static boolean isBlank(int b) {
            return b == ' ' || b == '\n';
        }

        private static boolean isDigit(int b) {
            return b >= '0' && b <= '9';
        }

        private static boolean isLetter(int b) {
            return b >= 'a' && b <= 'z';
        }
    }
}
