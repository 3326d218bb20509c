import java.util.ArrayList;
import java.util.List;

/**
 * The document once more, as slowly and literally as it can be said, to compare with: yards are sets, every thought
 * is a whole copy, texts are checked by one pass with a stack and reckoned by splitting their tokens.
 */
final class Model {
    static final long NO = -4611686018427387904L;
    static final List<String> NAMES = List.of("high", "at", "long", "clover", "year", "more");

    static final class Dune {
        int kind, more, front, size, high;
        boolean gone;

        Dune clone(int ignored) {
            Dune d = new Dune();
            d.kind = kind;
            d.more = more;
            d.front = front;
            d.size = size;
            d.high = high;
            d.gone = gone;
            return d;
        }

        boolean on(int y) {
            return y <= front && y > front - size;
        }
    }

    static final class World {
        boolean[] house = new boolean[40], clover = new boolean[40];
        List<Dune> dunes = new ArrayList<>();
        int year, law;

        World twin() {
            World w = new World();
            w.house = house.clone();
            w.clover = clover.clone();
            for (Dune d : dunes) {
                w.dunes.add(d.clone(0));
            }
            w.year = year;
            w.law = law;
            return w;
        }
    }

    World now = new World();
    World kept;
    final List<List<List<String>>> texts = new ArrayList<>();
    String tape = "";
    final int[][] sheets = new int[4][];
    final int[] sorts = new int[4];

    Model() {
        List<List<String>> first = new ArrayList<>();
        check("walks 2 ; grows 1 - 9 * clover ; needs 1 ;", first);
        texts.add(first);
    }

    // ---- texts

    /** The place of the fault, or -1: then the tokens of the three parts stand in parts. */
    static int check(String text, List<List<String>> parts) {
        List<String> tokens = new ArrayList<>();
        List<Integer> places = new ArrayList<>();
        for (int i = 0; i < text.length();) {
            char c = text.charAt(i);
            if (c == ' ' || c == '\n') {
                i++;
                continue;
            }
            int j = i + 1;
            if (c >= 'a' && c <= 'z') {
                while (j < text.length() && text.charAt(j) >= 'a' && text.charAt(j) <= 'z') {
                    j++;
                }
            } else if (c >= '0' && c <= '9') {
                while (j < text.length() && text.charAt(j) >= '0' && text.charAt(j) <= '9') {
                    j++;
                }
            }
            tokens.add(text.substring(i, j));
            places.add(i);
            i = j;
        }
        int at = 0;
        for (String key : new String[] {"walks", "grows", "needs"}) {
            if (at >= tokens.size() || !tokens.get(at).equals(key)) {
                return at < tokens.size() ? places.get(at) : text.length();
            }
            int end = expressionEnd(tokens, at + 1);
            if (end < 0) {
                int bad = -1 - end;
                return bad < tokens.size() ? places.get(bad) : text.length();
            }
            parts.add(new ArrayList<>(tokens.subList(at + 1, end)));
            at = end + 1;
        }
        return at < tokens.size() ? places.get(at) : -1;
    }

    static boolean isOperand(String t) {
        char c = t.charAt(0);
        return c >= '0' && c <= '9' ? t.length() <= 4 : NAMES.contains(t);
    }

    /** The index of the ; behind it, or -1 less the index of the token that can't stand there. */
    static int expressionEnd(List<String> tokens, int from) {
        List<String> open = new ArrayList<>();
        List<Boolean> outer = new ArrayList<>();
        boolean wantsOperand = true, notMay = true, compared = false;
        for (int i = from; i < tokens.size(); i++) {
            String t = tokens.get(i);
            if (wantsOperand) {
                if (isOperand(t)) {
                    pop(open, "-");
                    wantsOperand = false;
                    continue;
                }
                boolean opens = t.equals("-") || t.equals("(") || t.equals("not") && notMay;
                if (!opens || open.size() >= 5) {
                    return -1 - i;
                }
                open.add(t);
                if (t.equals("(")) {
                    outer.add(compared);
                    compared = false;
                }
                notMay = !t.equals("-");
                continue;
            }
            if (t.equals("+") || t.equals("-") || t.equals("*")) {
                wantsOperand = true;
                notMay = false;
            } else if (t.equals("<") || t.equals("=")) {
                if (compared) {
                    return -1 - i;
                }
                compared = true;
                wantsOperand = true;
                notMay = false;
            } else if (t.equals("and") || t.equals("or")) {
                pop(open, "not");
                compared = false;
                wantsOperand = true;
                notMay = true;
            } else if (t.equals(")")) {
                pop(open, "not");
                if (open.isEmpty()) {
                    return -1 - i;
                }
                open.remove(open.size() - 1);
                compared = outer.remove(outer.size() - 1);
                pop(open, "-");
            } else if (t.equals(";")) {
                pop(open, "not");
                return open.isEmpty() ? i : -1 - i;
            } else {
                return -1 - i;
            }
        }
        return -1 - tokens.size();
    }

    static void pop(List<String> open, String what) {
        while (!open.isEmpty() && open.get(open.size() - 1).equals(what)) {
            open.remove(open.size() - 1);
        }
    }

    static int lastOf(List<String> t, String... ops) {
        int deep = 0, found = -1;
        for (int i = 0; i < t.size(); i++) {
            if (t.get(i).equals("(")) {
                deep++;
            } else if (t.get(i).equals(")")) {
                deep--;
            }
            boolean binary = i > 0 && (isOperand(t.get(i - 1)) || t.get(i - 1).equals(")"));
            if (deep == 0 && binary) {
                for (String op : ops) {
                    if (t.get(i).equals(op)) {
                        found = i;
                    }
                }
            }
        }
        return found;
    }

    int value(List<String> t, World w, Dune d) {
        for (String[] ops : new String[][] {{"or"}, {"and"}, {"not"}, {"<", "="}, {"+", "-"}, {"*"}}) {
            if (ops[0].equals("not")) {
                if (t.get(0).equals("not")) {
                    return value(t.subList(1, t.size()), w, d) == 0 ? 1 : 0;
                }
                continue;
            }
            int i = lastOf(t, ops);
            if (i > 0) {
                int a = value(t.subList(0, i), w, d), b = value(t.subList(i + 1, t.size()), w, d);
                switch (t.get(i)) {
                    case "or": return a != 0 || b != 0 ? 1 : 0;
                    case "and": return a != 0 && b != 0 ? 1 : 0;
                    case "<": return a < b ? 1 : 0;
                    case "=": return a == b ? 1 : 0;
                    case "+": return a + b;
                    case "-": return a - b;
                    default: return a * b;
                }
            }
        }
        switch (t.get(0)) {
            case "-": return -value(t.subList(1, t.size()), w, d);
            case "(": return value(t.subList(1, t.size() - 1), w, d);
            case "high": return d.high;
            case "at": return d.front;
            case "long": return d.size;
            case "clover": return onClover(w, d) ? 1 : 0;
            case "year": return w.year;
            case "more": return d.more;
            default: return Integer.parseInt(t.get(0));
        }
    }

    int says(int part, World w, Dune d) {
        int v = value(texts.get(w.law).get(part), w, d);
        int least = part == 1 ? -99 : 0, most = part == 0 ? 9 : 99;
        return Math.min(most, Math.max(least, v));
    }

    // ---- a year

    static boolean onClover(World w, Dune d) {
        for (int y = 0; y < 40; y++) {
            if (w.clover[y] && d.on(y)) {
                return true;
            }
        }
        return false;
    }

    int stride(World w, Dune d) {
        int dune = says(0, w, d);
        int walked = dune < d.more ? dune : d.more;
        int blond = d.high > 50 ? dune / 2 : dune + 1;
        int[] each = {dune, walked, blond, w.year % 2 == 0 ? walked : 0, blond + blond, 0};
        return each[d.kind];
    }

    int growth(World w, Dune d) {
        int dune = says(1, w, d);
        int walked = onClover(w, d) ? dune / 2 : dune;
        int[] each = {dune, walked, dune, walked, dune - d.more, onClover(w, d) ? -d.more : 0};
        return each[d.kind];
    }

    int need(World w, Dune d) {
        int dune = says(2, w, d);
        int[] each = {dune, dune, dune + d.more, 0, dune + d.more, dune};
        return each[d.kind];
    }

    void pass(World w) {
        for (Dune d : w.dunes) {
            if (d.gone) {
                continue;
            }
            d.front = Math.min(39, d.front + stride(w, d));
            for (Dune o : w.dunes) {
                boolean meets = false;
                for (int y = 0; y < 40; y++) {
                    meets |= d.on(y) && o.on(y);
                }
                if (o != d && !o.gone && meets && !(o.high > d.high)) {
                    o.gone = true;
                    d.high = Math.min(99, d.high + o.high / 2);
                }
            }
            d.high = Math.max(0, Math.min(99, d.high + growth(w, d)));
            if (d.high < need(w, d)) {
                d.gone = true;
            }
        }
        w.year++;
    }

    static boolean sand(World w, int y) {
        for (Dune d : w.dunes) {
            if (!d.gone && d.on(y)) {
                return true;
            }
        }
        return false;
    }

    static int buried(World w) {
        int n = 0;
        for (int y = 0; y < 40; y++) {
            n += w.house[y] && sand(w, y) ? 1 : 0;
        }
        return n;
    }

    static int living(World w) {
        int bits = 0;
        for (int d = 0; d < w.dunes.size(); d++) {
            bits += w.dunes.get(d).gone ? 0 : 1 << d;
        }
        return bits;
    }

    static int houses(World w) {
        int n = 0;
        for (boolean h : w.house) {
            n += h ? 1 : 0;
        }
        return n;
    }

    static boolean no(World w, int d) {
        return d < 0 || d >= w.dunes.size() || w.dunes.get(d).gone;
    }

    World later(World w, int n) {
        World t = w.twin();
        for (int i = 0; i < n; i++) {
            pass(t);
        }
        return t;
    }

    int toll(World w, int n) {
        World t = w.twin();
        int sum = 0;
        for (int i = 0; i < n; i++) {
            pass(t);
            sum += buried(t);
        }
        return sum;
    }

    static boolean out(int v, int least, int most) {
        return v < least || v > most;
    }

    // ---- the parish, the law, dunes

    int count(int what) {
        int clover = 0;
        for (boolean c : now.clover) {
            clover += c ? 1 : 0;
        }
        int[] each = {now.dunes.size(), Integer.bitCount(living(now)), now.year, houses(now), clover, texts.size(),
            now.law, tape.length()};
        return out(what, 0, 7) ? -2 : each[what];
    }

    int yard(int y, int what, int is) {
        if (out(y, 0, 39)) {
            return -5;
        }
        if (out(what, 0, 1) || out(is, 0, 1)) {
            return -7;
        }
        boolean[] row = what == 0 ? now.house : now.clover;
        int was = row[y] ? 1 : 0;
        row[y] = is == 1;
        return was;
    }

    long parish(int what) {
        if (out(what, 0, 3)) {
            return NO;
        }
        long bits = 0;
        for (int y = 0; y < 40; y++) {
            boolean[] each = {now.house[y], now.clover[y], sand(now, y), now.house[y] && sand(now, y)};
            bits += each[what] ? 1L << y : 0;
        }
        return bits;
    }

    int feed(int n, int a, int b, int c, int d, int e) {
        int[] each = {a, b, c, d, e};
        if (out(n, 1, 5)) {
            return -2;
        }
        for (int v : each) {
            if (out(v, 0, 255)) {
                return -2;
            }
        }
        if (tape.length() + n > 160) {
            return -4;
        }
        for (int i = 0; i < n; i++) {
            tape += (char) each[i];
        }
        return tape.length();
    }

    int text() {
        if (texts.size() == 6) {
            return -4;
        }
        List<List<String>> parts = new ArrayList<>();
        int fault = check(tape, parts);
        tape = "";
        if (fault >= 0) {
            return -100 - fault;
        }
        texts.add(parts);
        return texts.size() - 1;
    }

    int force(int t) {
        if (out(t, 0, texts.size() - 1)) {
            return -2;
        }
        int was = now.law;
        now.law = t;
        return was;
    }

    int asks(int part, int d) {
        return out(part, 0, 2) || no(now, d) ? -1000 : says(part, now, now.dunes.get(d));
    }

    int dune(int kindMore, int atSizeHigh) {
        if (out(kindMore, 0, 59) || out(atSizeHigh, 0, 399999)) {
            return -2;
        }
        Dune d = new Dune();
        d.kind = kindMore / 10;
        d.more = kindMore % 10;
        d.front = atSizeHigh / 10000;
        d.size = atSizeHigh / 1000 % 10;
        d.high = atSizeHigh % 1000;
        if (d.size == 0 || d.high > 99) {
            return -2;
        }
        if (now.dunes.size() == 6) {
            return -4;
        }
        now.dunes.add(d);
        return now.dunes.size() - 1;
    }

    static int set(Dune d, int what, int v) {
        int was;
        switch (what) {
            case 0: was = d.front; d.front = v; return was;
            case 1: was = d.size; d.size = v; return was;
            case 2: was = d.high; d.high = v; return was;
            case 3: was = d.kind; d.kind = v; return was;
            default: was = d.more; d.more = v; return was;
        }
    }

    int put(int d, int what, int v) {
        if (no(now, d)) {
            return -5;
        }
        int[][] bounds = {{0, 39}, {1, 9}, {0, 99}};
        if (out(what, 0, 2) || out(v, bounds[what][0], bounds[what][1])) {
            return -7;
        }
        return set(now.dunes.get(d), what, v);
    }

    int told(int d, int what) {
        if (no(now, d)) {
            return -5;
        }
        if (out(what, 0, 8)) {
            return -7;
        }
        Dune dune = now.dunes.get(d);
        int houses = 0;
        for (int y = 0; y < 40; y++) {
            houses += now.house[y] && dune.on(y) ? 1 : 0;
        }
        int[] each = {dune.front, dune.size, dune.high, dune.kind, dune.more, onClover(now, dune) ? 1 : 0,
            stride(now, dune), need(now, dune), houses};
        return each[what];
    }

    int grows(int d) {
        return no(now, d) ? -1000 : growth(now, now.dunes.get(d));
    }

    // ---- years

    int year() {
        if (now.year == 999) {
            return -3;
        }
        int was = living(now);
        pass(now);
        return was - living(now);
    }

    int run(int n, int what) {
        boolean fine = !out(what, 0, 2) || what >= 10 && what < 20 && !no(now, what - 10)
            || what >= 20 && what < 30 && !no(now, what - 20);
        if (out(n, 0, 40) || !fine) {
            return -2;
        }
        World w = later(now, n);
        if (what < 3) {
            return what == 0 ? living(w) : what == 1 ? buried(w) : toll(now, n);
        }
        Dune d = w.dunes.get(what % 10);
        return d.gone ? -1 : what < 20 ? d.front : d.high;
    }

    int comes(int y, int what) {
        if (out(y, 0, 39)) {
            return -5;
        }
        if (out(what, 0, 2)) {
            return -7;
        }
        int n = 0;
        while (n <= 40 && !sand(later(now, n), y)) {
            n++;
        }
        if (n > 40) {
            return what == 1 ? 0 : -1;
        }
        if (what == 0) {
            return n;
        }
        if (what == 1) {
            int m = n;
            while (m <= 40 && sand(later(now, m), y)) {
                m++;
            }
            return m - n;
        }
        List<Dune> dunes = later(now, n).dunes;
        int d = 0;
        while (dunes.get(d).gone || !dunes.get(d).on(y)) {
            d++;
        }
        return d;
    }

    int ends(int d) {
        if (no(now, d)) {
            return -5;
        }
        for (int n = 1; n <= 40; n++) {
            if (no(later(now, n), d)) {
                return n;
            }
        }
        return -1;
    }

    int first(int what) {
        if (out(what, 0, 1)) {
            return -2;
        }
        for (int n = 0; n <= 40; n++) {
            World w = later(now, n);
            for (int d = 0; d < w.dunes.size(); d++) {
                if (!no(w, d) && w.dunes.get(d).front == 39) {
                    return what == 0 ? d : n;
                }
            }
        }
        return -1;
    }

    // ---- what is best

    int sow(int n, int what) {
        if (out(n, 0, 20) || out(what, 0, 1)) {
            return -2;
        }
        int best = -1, least = toll(now, n);
        for (int y = 0; y < 40; y++) {
            World w = now.twin();
            w.clover[y] = true;
            if (!now.clover[y] && toll(w, n) < least) {
                best = y;
                least = toll(w, n);
            }
        }
        return what == 0 ? best : least;
    }

    int move(int n, int what) {
        if (out(n, 0, 20) || out(what, 0, 1)) {
            return -2;
        }
        int best = -1, least = toll(now, n);
        for (int from = 0; from < 40; from++) {
            for (int to = 0; to < 40; to++) {
                if (now.house[from] && !now.house[to]) {
                    World w = now.twin();
                    w.house[from] = false;
                    w.house[to] = true;
                    int toll = toll(w, n);
                    if (toll < least) {
                        best = 100 * from + to;
                        least = toll;
                    }
                }
            }
        }
        return what == 0 ? best : least;
    }

    int hold(int n, int what) {
        if (out(n, 0, 40) || out(what, 0, 1)) {
            return -2;
        }
        int best = -1, least = toll(now, n);
        for (int d = 0; d < now.dunes.size(); d++) {
            World w = now.twin();
            w.dunes.get(d).gone = true;
            if (!no(now, d) && toll(w, n) < least) {
                best = d;
                least = toll(w, n);
            }
        }
        return what == 0 ? best : least;
    }

    static long part(int above, int below, int part) {
        int a = above, b = below;
        while (b != 0) {
            int r = a % b;
            a = b;
            b = r;
        }
        return part == 0 ? above / a : below / a;
    }

    long share(int n, int part) {
        return out(n, 0, 40) || out(part, 0, 1) || houses(now) == 0 ? NO
            : part(buried(later(now, n)), houses(now), part);
    }

    // ---- told years

    int against(int s, boolean ofDune, int d) {
        if (out(s, 0, 3)) {
            return -2;
        }
        if (sheets[s] == null) {
            return -11;
        }
        if (sheets[s].length > 20) {
            return -2;
        }
        return ofDune && no(now, d) ? -5 : 0;
    }

    int otherwise(World w, int s, int d) {
        for (int i = 0; i < sheets[s].length; i++) {
            World t = later(w, i + 1);
            if (sheets[s][i] != (no(t, d) ? -1 : t.dunes.get(d).front)) {
                return i;
            }
        }
        return -1;
    }

    int judge(int s, int d) {
        int against = against(s, true, d);
        return against != 0 ? against : otherwise(now, s, d);
    }

    boolean fits(int s, int d, int what, int v) {
        World w = now.twin();
        set(w.dunes.get(d), what, v);
        return otherwise(w, s, d) == -1;
    }

    int kinds(int s, int d, int sort) {
        int against = against(s, true, d);
        if (against != 0) {
            return against;
        }
        if (out(sort, 0, 1)) {
            return -7;
        }
        int bits = 0;
        for (int v = 0; v < (sort == 0 ? 6 : 10); v++) {
            bits += fits(s, d, 3 + sort, v) ? 1 << v : 0;
        }
        return bits;
    }

    int states(int s, int d, int sort, int what) {
        int against = against(s, true, d);
        if (against != 0) {
            return against;
        }
        if (out(sort, 0, 2) || out(what, 0, 1)) {
            return -7;
        }
        List<Integer> fitting = new ArrayList<>();
        for (int v = sort == 1 ? 1 : 0; v <= new int[] {39, 9, 99}[sort]; v++) {
            if (fits(s, d, sort, v)) {
                fitting.add(v);
            }
        }
        return what == 0 ? fitting.size() : fitting.isEmpty() ? -1 : fitting.get(0);
    }

    int whose(int s) {
        int against = against(s, false, 0);
        if (against != 0) {
            return against;
        }
        int bits = 0;
        for (int d = 0; d < now.dunes.size(); d++) {
            bits += !no(now, d) && otherwise(now, s, d) == -1 ? 1 << d : 0;
        }
        return bits;
    }

    int laws(int s, int d) {
        int against = against(s, true, d);
        if (against != 0) {
            return against;
        }
        int bits = 0;
        for (int t = 0; t < texts.size(); t++) {
            World w = now.twin();
            w.law = t;
            bits += otherwise(w, s, d) == -1 ? 1 << t : 0;
        }
        return bits;
    }

    int film(int s, int d, int n) {
        if (out(s, 0, 3)) {
            return -2;
        }
        if (no(now, d)) {
            return -5;
        }
        if (out(n, 0, 20)) {
            return -7;
        }
        sorts[s] = 0;
        sheets[s] = new int[n];
        for (int i = 0; i < n; i++) {
            World w = later(now, i + 1);
            sheets[s][i] = no(w, d) ? -1 : w.dunes.get(d).front;
        }
        return n;
    }

    // ---- winds by lots

    World blown(int seed, int[] together) {
        World w = now.twin();
        long lot = 48271L * (seed + 1) % 2147483647L;
        for (int i = 0; i < 6; i++) {
            int which = (int) (lot % 6);
            lot = 48271L * lot % 2147483647L;
            if (!no(w, which)) {
                Dune d = w.dunes.get(which);
                d.front = Math.min(39, d.front + (int) (lot % 4));
            }
            lot = 48271L * lot % 2147483647L;
            pass(w);
            together[0] += buried(w);
        }
        return w;
    }

    int drawn(int seed, int what) {
        if (out(seed, 0, 99999) || out(what, 0, 1)) {
            return -2;
        }
        int[] together = new int[1];
        World w = blown(seed, together);
        return what == 0 ? together[0] : living(w);
    }

    long odds(int seed, int seeds, int least, int part) {
        if (out(seed, 0, 99999) || out(seeds, 1, 40) || out(least, 0, 999) || out(part, 0, 1)) {
            return NO;
        }
        int n = 0;
        for (int i = 0; i < seeds; i++) {
            int[] together = new int[1];
            blown(seed + i, together);
            n += together[0] >= least ? 1 : 0;
        }
        return part(n, seeds, part);
    }

    int image() {
        kept = now.twin();
        return kept.dunes.size();
    }

    int back() {
        if (kept == null) {
            return -3;
        }
        now = kept.twin();
        return now.dunes.size();
    }

    // ---- the host

    int sheet(int s, int sort, int n) {
        if (out(s, 0, 3) || out(sort, -1, 2) || sort >= 0 && n > 40) {
            return -2;
        }
        if (sort >= 0 && n < 0) {
            return -14;
        }
        sorts[s] = sort;
        sheets[s] = sort < 0 ? null : new int[n];
        return 1;
    }

    int cell(int s, int i, int v) {
        if (out(s, 0, 3)) {
            return -2;
        }
        if (sheets[s] == null) {
            return -11;
        }
        if (out(i, 0, sheets[s].length - 1)) {
            return -12;
        }
        sheets[s][i] = new int[] {(byte) v, (short) v, v}[sorts[s]];
        return 1;
    }

    int copy(int s, int i, int other, int j, int n) {
        if (out(s, 0, 3) || out(other, 0, 3)) {
            return -2;
        }
        if (sheets[s] == null || sheets[other] == null) {
            return -11;
        }
        if (sorts[s] != sorts[other]) {
            return -13;
        }
        if (i < 0 || j < 0 || n < 0 || (long) i + n > sheets[s].length || (long) j + n > sheets[other].length) {
            return -12;
        }
        int[] were = sheets[s].clone();
        for (int k = 0; k < n; k++) {
            sheets[other][j + k] = were[i + k];
        }
        return n;
    }

    int dunesBy(int s, int sort, int from, int n) {
        if (out(s, 0, 3) || out(sort, 0, 2) || out(n, 0, 6)) {
            return -2;
        }
        if (sheets[s] == null) {
            return -11;
        }
        if (sorts[s] != sort) {
            return -13;
        }
        int came = 0;
        for (long k = from; k < from + 2L * n; k += 2) {
            if (k < 0 || k + 1 >= sheets[s].length) {
                return -12;
            }
            came += dune(sheets[s][(int) k], sheets[s][(int) k + 1]) >= 0 ? 1 : 0;
        }
        return came;
    }

    int taken(int i, int kind) {
        if (out(kind, 0, 6)) {
            return -2;
        }
        if (out(i, 0, 11)) {
            return -12;
        }
        if (i % 6 >= now.dunes.size()) {
            return -11;
        }
        Dune d = now.dunes.get(i % 6);
        if (i > 5 || kind == 6) {
            return i > 5 && kind == 6 ? d.high : -13;
        }
        int[] above = {-1, 0, 0, 1, 2, 0};
        for (int k = d.kind; k >= 0; k = above[k]) {
            if (k == kind) {
                return i;
            }
        }
        return -13;
    }
}
