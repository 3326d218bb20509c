import java.util.function.Supplier;

/** Promises 22 to 31: each sentence of a bound or a refusal, by the last that is taken and the first that isn't. */
public final class ToldEdgesTest {
    private static final int MIN = Integer.MIN_VALUE, MAX = Integer.MAX_VALUE;
    private static final long NO = -4611686018427387904L;
    private static final String STANDS = "walks 0;grows 0;needs 0;";
    private static final String GOES_ON = "walks 1;grows 0;needs 0;";

    public static void main(String[] args) {
        judgeTheFirst();
        judgeOfNoYears();
        judgeTwentyAtMost();
        judgeGone();
        judgeBySort();
        toldYearsOfNoSheet();
        toldYearsOfAMissingOne();
        toldYearsOfMoreThan20();
        toldYearsOfNoSuchDune();
        kindsBits();
        kindsOfMore();
        kindsRefuses();
        statesOfFront();
        statesOfLong();
        statesOfHigh();
        statesNone();
        statesRefuses();
        whoseBits();
        lawsBits();
        filmOfYears();
        filmGone();
        filmBecomesBytes();
        filmRefuses();
        windsForSixYears();
        windsAheadOfEach();
        windsOfNoSuchDune();
        windsTo39();
        windsByBothLots();
        drawnSeeds();
        drawnRefuses();
        oddsSeeds();
        oddsPass99999();
        oddsLeast();
        oddsLowestTerms();
        oddsRefuses();
        imageHowMany();
        imageKeeps();
        backThoseThatCame();
        backLeavesTheRest();
        backAgain();
        backWithoutImage();
        Due.end();
    }

    private static DunesWalked dune(String text, int front) {
        return Due.one(text, 0, 0, front, 1, 50);
    }

    /** Numbers from a first one on, each one more. */
    private static int[] from(int first, int n) {
        int[] numbers = new int[n];
        for (int i = 0; i < n; i++) {
            numbers[i] = first + i;
        }
        return numbers;
    }

    private static void judgeTheFirst() {
        Due.sentence("judge: the first number (from 0) that is otherwise; -1: none");
        DunesWalked x = dune(GOES_ON, 3);
        Due.sheet(x, 0, from(4, 20));
        Due.is("judge of what is so", x.judge(0, 0), -1);
        for (int i = 19; i >= 0; i--) {
            x.cell(0, i, 4 + i + (i % 2 == 0 ? 1 : -1));
            Due.is("judge, otherwise from " + i + " on", x.judge(0, 0), i);
        }
    }

    private static void judgeOfNoYears() {
        Due.sentence("judge: of a SHEET of no numbers none is otherwise");
        DunesWalked x = dune(GOES_ON, 3);
        for (int sort = 0; sort < 3; sort++) {
            x.sheet(0, sort, 0);
            Due.is("judge", x.judge(0, 0), -1);
            Due.is("kinds", x.kinds(0, 0, 0), 63);
            Due.is("states", x.states(0, 0, 0, 0), 40);
            Due.is("whose", x.whose(0), 1);
            Due.is("laws", x.laws(0, 0), 3);
        }
    }

    private static void judgeTwentyAtMost() {
        Due.sentence("judge: behind 1, 2, .. YEARS (20 at most)");
        DunesWalked x = dune("walks (year=19)*5+(year=20)*3;grows 0;needs 0;", 3);
        int[] told = new int[20];
        for (int i = 0; i < 20; i++) {
            told[i] = i < 19 ? 3 : 8;
        }
        Due.sheet(x, 0, told);
        Due.is("judge of 20", x.judge(0, 0), -1);
        x.cell(0, 19, 3);
        Due.is("judge of 20, the last otherwise", x.judge(0, 0), 19);
        x.sheet(0, 0, 21);
        Due.is("judge of 21", x.judge(0, 0), -2);
        // the first number is behind one year, not now
        Due.sheet(x, 1, 3);
        Due.is("judge of 1", x.judge(1, 0), -1);
        DunesWalked y = dune(GOES_ON, 3);
        Due.sheet(y, 1, 3);
        Due.is("judge of what is now", y.judge(1, 0), 0);
    }

    private static void judgeGone() {
        Due.sentence("judge: -1: it is GONE");
        DunesWalked x = dune("walks 0;grows 0;needs 99*(year=2);", 7);
        Due.sheet(x, 0, 7, 7, -1, -1, -1);
        Due.is("judge", x.judge(0, 0), -1);
        x.cell(0, 4, 7);
        Due.is("judge, not GONE any more", x.judge(0, 0), 4);
        x.cell(0, 2, 7);
        Due.is("judge, GONE late", x.judge(0, 0), 2);
        x.cell(0, 1, -1);
        Due.is("judge, GONE early", x.judge(0, 0), 1);
        x.cell(0, 1, -2);
        Due.is("judge of -2", x.judge(0, 0), 1);
    }

    private static void judgeBySort() {
        Due.sentence("judge: a SHEET of bytes, shorts, ints tells alike");
        int[] due = {-1, -1, 0};
        int[] wide = {256 + 7, 65536 + 7, 7 + (1 << 24)};
        for (int sort = 0; sort < 3; sort++) {
            DunesWalked x = dune(STANDS, 7);
            x.sheet(0, sort, 2);
            x.cell(0, 0, wide[sort]);
            x.cell(0, 1, 7);
            Due.is("judge by sort " + sort, x.judge(0, 0), due[sort]);
        }
    }

    /** What each call that is told years answers, for a sheet and a dune that it refuses alike. */
    private static void refused(DunesWalked x, int s, int d, int due) {
        Due.is("judge(" + s + ", " + d + ")", x.judge(s, d), due);
        Due.is("laws(" + s + ", " + d + ")", x.laws(s, d), due);
        for (int sort = -1; sort < 4; sort++) {
            Due.is("kinds(" + s + ", " + d + ", " + sort + ")", x.kinds(s, d, sort), due);
            Due.is("states(" + s + ", " + d + ", " + sort + ", 0)", x.states(s, d, sort, 0), due);
            Due.is("states(" + s + ", " + d + ", " + sort + ", 2)", x.states(s, d, sort, 2), due);
        }
    }

    private static void toldYearsOfNoSheet() {
        Due.sentence("judge, kinds, states, whose, laws: BAD: SHEET");
        for (int s : new int[] {-1, 4, MIN, MAX}) {
            DunesWalked x = dune(STANDS, 7);
            refused(x, s, 0, -2);
            refused(x, s, 9, -2);
            Due.is("whose(" + s + ")", x.whose(s), -2);
        }
    }

    private static void toldYearsOfAMissingOne() {
        Due.sentence("judge, kinds, states, whose, laws: -11");
        for (int s = 0; s < 4; s++) {
            DunesWalked x = dune(STANDS, 7);
            refused(x, s, 0, -11);
            refused(x, s, 9, -11);
            Due.is("whose(" + s + ")", x.whose(s), -11);
            x.sheet(s, 0, 1);
            x.sheet(s, -1, 0);
            Due.is("whose(" + s + ") of one that is missing again", x.whose(s), -11);
        }
    }

    private static void toldYearsOfMoreThan20() {
        Due.sentence("judge, kinds, states, whose, laws: BAD: it tells more than 20");
        for (int sort = 0; sort < 3; sort++) {
            DunesWalked x = dune(STANDS, 0);
            for (int n : new int[] {21, 40}) {
                x.sheet(1, sort, n);
                refused(x, 1, 0, -2);
                refused(x, 1, 9, -2);
                Due.is("whose(1)", x.whose(1), -2);
            }
            x.sheet(1, sort, 20);
            Due.is("judge of 20", x.judge(1, 0), -1);
            Due.is("kinds of 20", x.kinds(1, 0, 1), 1023);
            Due.is("states of 20", x.states(1, 0, 0, 0), 1);
            Due.is("whose of 20", x.whose(1), 1);
            Due.is("laws of 20", x.laws(1, 0), 2);
        }
    }

    private static void toldYearsOfNoSuchDune() {
        Due.sentence("judge, kinds, states, laws: -5: no such dune");
        DunesWalked x = dune("walks 0;grows 0;needs 99*(at=7);", 7);
        Due.dune(x, 0, 0, 20, 1, 9);
        Due.is("year()", x.year(), 1);
        x.sheet(0, 0, 0);
        for (int d : new int[] {-1, 0, 2, 5, 6, MIN, MAX}) {
            refused(x, 0, d, -5);
        }
        Due.is("judge(0, 1)", x.judge(0, 1), -1);
        Due.is("whose(0): GONE ones are none", x.whose(0), 2);
    }

    private static void kindsBits() {
        Due.sentence("kinds: KINDS (sort 0; bits 0 .. 5)");
        // by 4, MORE 3, HIGH 50, YEAR 0: 4, 3, 5, 3, 10, 0; then, in YEAR 1: 4, 3, 5, 0, 10, 0
        int[][] told = {{14, 18}, {13, 16}, {15, 20}, {13, 13}, {20, 30}, {10, 10}};
        for (int kind = 0; kind < 6; kind++) {
            for (int own = 0; own < 6; own++) {
                DunesWalked x = Due.one("walks 4;grows 0;needs 0;", own, 3, 10, 1, 50);
                Due.sheet(x, 0, told[kind]);
                Due.is("kinds of KIND " + own + " told as of " + kind, x.kinds(0, 0, 0), 1 << kind);
                Due.is("its KIND is as it was", x.told(0, 3), own);
            }
        }
        DunesWalked y = Due.one(STANDS, 0, 3, 39, 1, 50);
        Due.sheet(y, 0, 39);
        Due.is("kinds of all", y.kinds(0, 0, 0), 63);
        Due.sheet(y, 0, 38);
        Due.is("kinds of none", y.kinds(0, 0, 0), 0);
    }

    private static void kindsOfMore() {
        Due.sentence("kinds: MORE (1; bits 0 .. 9)");
        for (int more = 0; more < 10; more++) {
            DunesWalked x = Due.one("walks 9;grows 0;needs 0;", 1, 9 - more, 10, 1, 50);
            Due.sheet(x, 0, 10 + more);
            Due.is("kinds by a walk of " + more, x.kinds(0, 0, 1), 1 << more);
            Due.is("its MORE is as it was", x.told(0, 4), 9 - more);
        }
        DunesWalked y = dune(STANDS, 39);
        Due.sheet(y, 0, 39);
        Due.is("kinds of all", y.kinds(0, 0, 1), 1023);
        Due.sheet(y, 0, 38);
        Due.is("kinds of none", y.kinds(0, 0, 1), 0);
    }

    private static void kindsRefuses() {
        Due.sentence("kinds: -7: sort");
        DunesWalked x = dune(STANDS, 39);
        x.sheet(0, 0, 0);
        for (int sort : new int[] {-1, 2, MIN, MAX}) {
            Due.is("kinds(0, 0, " + sort + ")", x.kinds(0, 0, sort), -7);
        }
    }

    private static void states(DunesWalked x, int sort, int many, int least) {
        Due.is("states(0, 0, " + sort + ", 0)", x.states(0, 0, sort, 0), many);
        Due.is("states(0, 0, " + sort + ", 1)", x.states(0, 0, sort, 1), least);
    }

    private static void statesOfFront() {
        Due.sentence("states: FRONT (sort 0; 0 .. 39)");
        for (int front = 0; front < 40; front++) {
            DunesWalked x = dune(STANDS, 5);
            Due.sheet(x, 0, front);
            states(x, 0, 1, front);
            Due.is("its FRONT is as it was", x.told(0, 0), 5);
        }
        DunesWalked y = dune("walks 9;grows 0;needs 0;", 5);
        Due.sheet(y, 0, 39);
        states(y, 0, 10, 30);
        Due.sheet(y, 0);
        states(y, 0, 40, 0);
    }

    private static void statesOfLong() {
        Due.sentence("states: LONG (1; 1 .. 9)");
        for (int size = 1; size <= 9; size++) {
            DunesWalked x = dune("walks (long=" + size + ");grows 0;needs 0;", 5);
            Due.sheet(x, 0, 6);
            states(x, 1, 1, size);
            Due.sheet(x, 0, 5);
            states(x, 1, 8, size == 1 ? 2 : 1);
            Due.is("its LONG is as it was", x.told(0, 1), 1);
        }
        DunesWalked y = dune(STANDS, 5);
        Due.sheet(y, 0, 5);
        states(y, 1, 9, 1);
    }

    private static void statesOfHigh() {
        Due.sentence("states: HIGH (2; 0 .. 99)");
        for (int high : new int[] {0, 1, 49, 98, 99}) {
            DunesWalked x = dune("walks (high=" + high + ");grows 0;needs 0;", 5);
            Due.sheet(x, 0, 6);
            states(x, 2, 1, high);
            Due.is("its HIGH is as it was", x.told(0, 2), 50);
        }
        DunesWalked y = dune(STANDS, 5);
        Due.sheet(y, 0, 5);
        states(y, 2, 100, 0);
        DunesWalked z = dune("walks 0;grows 0;needs 99;", 5);
        Due.sheet(z, 0, 5);
        states(z, 2, 1, 99);
    }

    private static void statesNone() {
        Due.sentence("states: how many (what 0), the least (1; -1: none)");
        DunesWalked x = dune(STANDS, 5);
        Due.sheet(x, 0, -1);
        for (int sort = 0; sort < 3; sort++) {
            states(x, sort, 0, -1);
        }
    }

    private static void statesRefuses() {
        Due.sentence("states: -7: sort, what");
        DunesWalked x = dune(STANDS, 5);
        x.sheet(0, 0, 0);
        for (int bad : new int[] {-1, 3, MIN, MAX}) {
            Due.is("states(0, 0, " + bad + ", 0)", x.states(0, 0, bad, 0), -7);
        }
        for (int bad : new int[] {-1, 2, MIN, MAX}) {
            for (int sort = 0; sort < 3; sort++) {
                Due.is("states(0, 0, " + sort + ", " + bad + ")", x.states(0, 0, sort, bad), -7);
            }
        }
    }

    private static void whoseBits() {
        Due.sentence("whose: DUNES (bits) of which that is -1");
        DunesWalked x = new DunesWalked();
        Due.law(x, STANDS);
        x.sheet(0, 0, 0);
        Due.is("whose of no dunes", x.whose(0), 0);
        for (int d = 0; d < 6; d++) {
            Due.dune(x, 0, 0, 2 + 5 * d, 1, 50);
            Due.is("whose of all", x.whose(0), (2 << d) - 1);
        }
        for (int d = 0; d < 6; d++) {
            Due.sheet(x, 1, 2 + 5 * d);
            Due.is("whose of one", x.whose(1), 1 << d);
        }
        Due.sheet(x, 1, 3);
        Due.is("whose of none", x.whose(1), 0);
        DunesWalked y = new DunesWalked();
        Due.law(y, "walks 1;grows 0;needs 99*(at=9);");
        Due.dune(y, 0, 0, 4, 1, 50);
        Due.dune(y, 0, 0, 8, 1, 50);
        Due.sheet(y, 1, -1);
        Due.is("whose of GONE then", y.whose(1), 2);
    }

    private static void lawsBits() {
        Due.sentence("laws: TEXTS (bits), were they THE LAW");
        DunesWalked x = new DunesWalked();
        Due.dune(x, 0, 0, 5, 1, 50);
        Due.sheet(x, 0, 7);
        Due.is("laws of one text", x.laws(0, 0), 1);
        for (int t = 1; t < 6; t++) {
            Due.law(x, "walks " + (2 + t) + ";grows 0;needs 0;");
            Due.sheet(x, 0, 7 + t);
            Due.is("laws of the last", x.laws(0, 0), 1 << t);
            Due.is("THE LAW is as it was", x.count(6), t);
        }
        Due.sheet(x, 0, 7);
        Due.is("laws of the first", x.laws(0, 0), 1);
        Due.sheet(x, 0, 5);
        Due.is("laws of none", x.laws(0, 0), 0);
        x.put(0, 0, 39);
        Due.sheet(x, 0, 39);
        Due.is("laws of all", x.laws(0, 0), 63);
    }

    private static void filmOfYears() {
        Due.sentence("film: FRONT of a dune behind 1, .., n YEARS (0 .. 20): n");
        for (int n = 0; n <= 20; n++) {
            DunesWalked x = dune(GOES_ON, 5);
            Due.is("film(3, 0, " + n + ")", x.film(3, 0, n), n);
            Due.is("it has n numbers", Seen.sizeOf(x, 3), n);
            Due.is("judge", x.judge(3, 0), -1);
            Due.is("FRONT is as it was", x.told(0, 0), 5);
            Due.is("YEAR is as it was", x.count(2), 0);
            if (n > 0) {
                Due.is("its last number", Seen.number(x, 3, n - 1), 5 + n);
                Due.is("its first number", Seen.number(x, 3, 0), 6);
            }
        }
    }

    private static void filmGone() {
        Due.sentence("film: -1: it is GONE");
        DunesWalked x = dune("walks 1;grows 0;needs 99*(year=2);", 5);
        Due.is("film(0, 0, 5)", x.film(0, 0, 5), 5);
        int[] due = {6, 7, -1, -1, -1};
        for (int i = 0; i < due.length; i++) {
            DunesWalked y = dune("walks 1;grows 0;needs 99*(year=2);", 5);
            y.film(0, 0, 5);
            Due.is("number " + i, Seen.number(y, 0, i), due[i]);
        }
        Due.is("judge", x.judge(0, 0), -1);
        Due.is("it is there still", x.told(0, 0), 5);
    }

    private static void filmBecomesBytes() {
        Due.sentence("film: a SHEET truly becomes that (bytes)");
        for (int sort = -1; sort < 3; sort++) {
            DunesWalked x = dune(GOES_ON, 5);
            x.sheet(2, sort, 40);
            Due.is("film(2, 0, 3)", x.film(2, 0, 3), 3);
            Due.is("its sort", Seen.sortOf(x, 2), 0);
            Due.is("how many it has", Seen.sizeOf(x, 2), 3);
            Due.is("another is missing", Seen.sortOf(x, 1), -1);
        }
    }

    private static void filmRefuses() {
        Due.sentence("film: BAD: SHEET; -5: no such dune; -7: n");
        DunesWalked x = dune("walks 0;grows 0;needs 99*(at=5);", 5);
        Due.dune(x, 0, 0, 20, 1, 9);
        Due.is("year()", x.year(), 1);
        for (int s : new int[] {-1, 4, MIN, MAX}) {
            Due.is("film(" + s + ", 1, 1)", x.film(s, 1, 1), -2);
            Due.is("film(" + s + ", 0, 21)", x.film(s, 0, 21), -2);
        }
        for (int d : new int[] {-1, 0, 2, 5, 6, MIN, MAX}) {
            Due.is("film(0, " + d + ", 1)", x.film(0, d, 1), -5);
            Due.is("film(0, " + d + ", 21)", x.film(0, d, 21), -5);
        }
        for (int n : new int[] {-1, 21, MIN, MAX}) {
            Due.is("film(0, 1, " + n + ")", x.film(0, 1, n), -7);
        }
        Due.is("the SHEET is missing still", x.whose(0), -11);
    }

    /** Six years with their winds, lived by put() and year(); how many houses were buried, together. */
    private static int lived(DunesWalked x, int seed) {
        long lot = (seed + 1L) * 48271 % 2147483647;
        int together = 0;
        for (int t = 0; t < 6; t++) {
            int d = (int) (lot % 6);
            lot = lot * 48271 % 2147483647;
            int front = x.told(d, 0);
            if (front >= 0) {
                x.put(d, 0, Math.min(39, front + (int) (lot % 4)));
            }
            lot = lot * 48271 % 2147483647;
            x.year();
            together += x.run(0, 1);
        }
        return together;
    }

    private static void drawnAsLived(Supplier<DunesWalked> made, int seed) {
        DunesWalked lived = made.get();
        int together = lived(lived, seed);
        DunesWalked x = made.get();
        Due.is("drawn(" + seed + ", 0)", x.drawn(seed, 0), together);
        Due.is("drawn(" + seed + ", 1)", x.drawn(seed, 1), lived.run(0, 0));
    }

    private static void windsForSixYears() {
        Due.sentence("WINDS: six YEARS");
        for (int seed : new int[] {0, 1, 5, 99999}) {
            DunesWalked x = Due.one(STANDS, 5, 0, 39, 1, 50);
            Due.houses(x, 39);
            Due.is("drawn(" + seed + ", 0) of one that is buried always", x.drawn(seed, 0), 6);
            DunesWalked y = Due.one("walks 0;grows 0;needs 99*(year=5);", 5, 0, 39, 1, 50);
            Due.is("drawn(" + seed + ", 1) of one that goes in the sixth", y.drawn(seed, 1), 0);
            DunesWalked z = Due.one("walks 0;grows 0;needs 99*(year=6);", 5, 0, 39, 1, 50);
            Due.is("drawn(" + seed + ", 1) of one that goes in the seventh", z.drawn(seed, 1), 1);
        }
    }

    private static void windsAheadOfEach() {
        Due.sentence("WINDS: ahead of each YEAR two LOTS");
        // seed 0: the first lot is 48271, modulo 6 it is 1; the other is 182605794, modulo 4 it is 2
        DunesWalked x = new DunesWalked();
        Due.law(x, "walks 0;grows 0;needs 99*(at=12)*(year=0);");
        Due.dune(x, 5, 0, 20, 1, 50);
        Due.dune(x, 5, 0, 10, 1, 50);
        Due.is("drawn(0, 1)", x.drawn(0, 1), 1);
        x.put(1, 0, 11);
        Due.is("drawn(0, 1)", x.drawn(0, 1), 3);
    }

    private static void windsOfNoSuchDune() {
        Due.sentence("WINDS: FRONT of dune LOT modulo 6 is, if it is there and isn't GONE, further");
        for (int seed = 0; seed < 40; seed++) {
            for (int dunes = 0; dunes <= 6; dunes++) {
                int many = dunes;
                drawnAsLived(() -> {
                    DunesWalked x = new DunesWalked();
                    Due.law(x, "walks 1;grows 0-9*clover;needs 1;");
                    Due.houses(x, 3, 5, 8, 11, 17, 22, 26, 31, 36, 39);
                    Due.clover(x, 12, 28);
                    for (int d = 0; d < many; d++) {
                        Due.dune(x, d % 2 == 0 ? 0 : 5, 0, 3 + 6 * d, 2, d == 2 ? 0 : 8 + d);
                    }
                    x.year();
                    return x;
                }, 2503 * seed);
            }
        }
    }

    private static void windsTo39() {
        Due.sentence("WINDS: by the other LOT modulo 4 further (39 at most)");
        for (int seed = 0; seed < 40; seed++) {
            for (int front = 36; front < 40; front++) {
                int at = front;
                drawnAsLived(() -> {
                    DunesWalked x = Due.one(STANDS, 5, 0, at, 1, 50);
                    Due.houses(x, 39);
                    return x;
                }, 2503 * seed);
            }
        }
    }

    private static void windsByBothLots() {
        Due.sentence("LOTS: the first is (SEED and 1) times 48271 modulo 2147483647, each further one the last");
        // each yard's house tells where the one dune stood behind the years
        for (int seed = 0; seed < 100000; seed += 1111) {
            for (int y = 0; y < 18; y += 5) {
                int house = y;
                drawnAsLived(() -> {
                    DunesWalked x = Due.one(STANDS, 5, 0, 0, 3, 50);
                    Due.houses(x, house);
                    return x;
                }, seed);
            }
        }
    }

    private static DunesWalked windy() {
        DunesWalked x = Due.one(STANDS, 5, 0, 10, 1, 90);
        Due.houses(x, 12, 13, 15);
        return x;
    }

    private static void drawnSeeds() {
        Due.sentence("a SEED (0 .. 99999)");
        drawnAsLived(ToldEdgesTest::windy, 0);
        drawnAsLived(ToldEdgesTest::windy, 99999);
        for (int seed : new int[] {-1, 100000, MIN, MAX}) {
            Due.is("drawn(" + seed + ", 0)", windy().drawn(seed, 0), -2);
            Due.is("drawn(" + seed + ", 1)", windy().drawn(seed, 1), -2);
        }
        Due.is("drawn(0, 0) of nothing", new DunesWalked().drawn(0, 0), 0);
        Due.is("drawn(0, 1) of nothing", new DunesWalked().drawn(0, 1), 0);
    }

    private static void drawnRefuses() {
        Due.sentence("drawn: BAD: what");
        for (int what : new int[] {-1, 2, MIN, MAX}) {
            Due.is("drawn(0, " + what + ")", windy().drawn(0, what), -2);
        }
    }

    private static void odds(DunesWalked x, int seed, int seeds, int least, long above, long below) {
        String call = "odds(" + seed + ", " + seeds + ", " + least + ", ";
        Due.is(call + "0)", x.odds(seed, seeds, least, 0), above);
        Due.is(call + "1)", x.odds(seed, seeds, least, 1), below);
    }

    private static void oddsSeeds() {
        Due.sentence("odds: of so many (1 .. 40) seeds, SEED and each 1 more");
        for (int seeds = 1; seeds <= 40; seeds++) {
            int above = 0;
            for (int i = 0; i < seeds; i++) {
                above += lived(windy(), 700 + i) >= 3 ? 1 : 0;
            }
            int common = Due.common(above, seeds);
            odds(windy(), 700, seeds, 3, above / common, seeds / common);
        }
        odds(windy(), 700, 0, 3, NO, NO);
        odds(windy(), 700, 41, 3, NO, NO);
    }

    private static DunesWalked onward() {
        DunesWalked x = Due.one(STANDS, 5, 0, 10, 1, 90);
        Due.houses(x, 10, 11);
        return x;
    }

    private static void oddsPass99999() {
        Due.sentence("odds: (they may pass 99999)");
        for (int least = 0; least < 10; least++) {
            int first = lived(windy(), 99999) >= least ? 1 : 0;
            int both = first + (lived(windy(), 100000) >= least ? 1 : 0);
            odds(windy(), 99999, 1, least, first, 1);
            odds(windy(), 99999, 2, least, both == 0 ? 0 : 1, both == 1 ? 2 : 1);
        }
        // seed by seed: what 100000 and on draw is not what 0 and on draw
        for (int seeds = 2; seeds <= 40; seeds++) {
            int above = 0;
            for (int i = 0; i < seeds; i++) {
                above += lived(onward(), 99999 + i) >= 3 ? 1 : 0;
            }
            int common = Due.common(above, seeds);
            odds(onward(), 99999, seeds, 3, above / common, seeds / common);
        }
        odds(windy(), 100000, 1, 4, NO, NO);
        odds(windy(), -1, 1, 4, NO, NO);
    }

    private static void oddsLeast() {
        Due.sentence("odds: these are least (0 .. 999) or more");
        DunesWalked x = Due.one(STANDS, 5, 0, 39, 9, 50);
        Due.houses(x, 31, 32, 33, 34, 35, 36, 37, 38, 39);
        Due.is("drawn(0, 0)", x.drawn(0, 0), 54);
        odds(x, 0, 40, 0, 1, 1);
        odds(x, 0, 40, 54, 1, 1);
        odds(x, 0, 40, 55, 0, 1);
        odds(x, 0, 40, 999, 0, 1);
        odds(x, 0, 40, 1000, NO, NO);
        odds(x, 0, 40, -1, NO, NO);
        odds(new DunesWalked(), 0, 1, 0, 1, 1);
        odds(new DunesWalked(), 0, 1, 1, 0, 1);
    }

    private static void oddsLowestTerms() {
        Due.sentence("odds: part 0 above, 1 below the line, in lowest terms");
        odds(new DunesWalked(), 0, 40, 0, 1, 1);
        odds(new DunesWalked(), 0, 40, 1, 0, 1);
        // buried in all six years: dune 0 is not moved on in any; of the seeds from 0 on that is told by drawn()
        for (int seeds : new int[] {4, 6, 8, 9, 12, 30, 36}) {
            int above = 0;
            DunesWalked x = Due.one(STANDS, 5, 0, 10, 1, 50);
            Due.houses(x, 10);
            for (int seed = 0; seed < seeds; seed++) {
                above += x.drawn(seed, 0) >= 4 ? 1 : 0;
            }
            long a = x.odds(0, seeds, 4, 0), b = x.odds(0, seeds, 4, 1);
            Due.is("odds of " + seeds + ", as a share", a * seeds, above * b);
            for (int k = 2; k <= 40; k++) {
                Due.is("odds of " + seeds + ", both by " + k, a % k == 0 && b % k == 0 ? 1 : 0, 0);
            }
        }
    }

    private static void oddsRefuses() {
        Due.sentence("odds: NO: none such");
        for (int bad : new int[] {MIN, -1, MAX}) {
            odds(windy(), bad, 1, 0, NO, NO);
            odds(windy(), 0, bad, 0, NO, NO);
            odds(windy(), 0, 1, bad, NO, NO);
        }
        for (int part : new int[] {-1, 2, MIN, MAX}) {
            Due.is("odds of part " + part, windy().odds(0, 1, 0, part), NO);
        }
        odds(windy(), 0, 1, 0, 1, 1);
    }

    private static void imageHowMany() {
        Due.sentence("image: how many DUNES (GONE, too)");
        DunesWalked x = new DunesWalked();
        Due.is("image() of none", x.image(), 0);
        for (int d = 0; d < 6; d++) {
            Due.dune(x, 5, 0, 2 + 5 * d, 1, d == 3 ? 0 : 50);
            Due.is("image()", x.image(), d + 1);
        }
        Due.is("year()", x.year(), 8);
        Due.is("image(), one being GONE", x.image(), 6);
        Due.is("back()", x.back(), 6);
        Due.is("count(1)", x.count(1), 5);
    }

    private static DunesWalked settled() {
        DunesWalked x = new DunesWalked();
        Due.houses(x, 0, 39);
        Due.clover(x, 1, 38);
        Due.law(x, "walks 1;grows 2;needs 1;");
        Due.dune(x, 3, 4, 10, 2, 20);
        Due.dune(x, 5, 6, 20, 9, 0);
        Due.is("year()", x.year(), 2);
        return x;
    }

    private static void imageKeeps() {
        Due.sentence("AN IMAGE keeps HOUSES, CLOVER, FRONT, LONG, HIGH of all, what is GONE, DUNES, YEAR, THE LAW");
        String was = Seen.of(() -> {
            DunesWalked x = settled();
            x.image();
            return x;
        });
        String is = Seen.of(() -> {
            DunesWalked x = settled();
            x.image();
            x.yard(0, 0, 0);
            x.yard(5, 0, 1);
            x.yard(1, 1, 0);
            x.yard(5, 1, 1);
            x.put(0, 0, 30);
            x.put(0, 1, 9);
            x.put(0, 2, 99);
            x.dune(25, 352077);
            x.force(0);
            x.year();
            x.back();
            return x;
        });
        Due.is("what is seen behind back()", is, was);
        DunesWalked gone = settled();
        gone.image();
        gone.put(0, 2, 0);
        Due.law(gone, "walks 0;grows 0;needs 9*(high=0);");
        gone.dune(0, 11000);
        Due.is("year()", gone.year(), 4);
        Due.is("back()", gone.back(), 2);
        Due.is("HIGH", gone.told(0, 2), 22);
        Due.is("what was GONE is", gone.told(1, 0), -5);
        Due.is("what is not among them is not GONE, but none", gone.taken(2, 0), -11);
        // GONE since: it is there again
        DunesWalked again = settled();
        again.image();
        Due.law(again, "walks 0;grows 0;needs 99;");
        again.dune(0, 391050);
        Due.is("year(): an abels needs nothing", again.year(), 4);
        Due.is("back()", again.back(), 2);
        DunesWalked one = dune(STANDS, 10);
        one.image();
        Due.law(one, "walks 0;grows 0;needs 99;");
        Due.is("year()", one.year(), 1);
        Due.is("told(0, 0)", one.told(0, 0), -5);
        Due.is("back()", one.back(), 1);
        Due.is("told(0, 0)", one.told(0, 0), 10);
        Due.is("YEAR", one.count(2), 0);
        Due.is("THE LAW", one.count(6), 1);
    }

    private static void backThoseThatCame() {
        Due.sentence("back: DUNES that came since are none: how many there are");
        DunesWalked x = new DunesWalked();
        Due.is("image()", x.image(), 0);
        for (int d = 0; d < 6; d++) {
            Due.is("dune", x.dune(0, 11009), d);
        }
        Due.is("back()", x.back(), 0);
        for (int d = 0; d < 6; d++) {
            Due.is("told(" + d + ", 0)", x.told(d, 0), -5);
            Due.is("taken(" + d + ", 0)", x.taken(d, 0), -11);
            Due.is("taken(" + (6 + d) + ", 6)", x.taken(6 + d, 6), -11);
        }
        Due.is("SAND", x.parish(2), 0);
        Due.is("run(0, 0)", x.run(0, 0), 0);
        Due.is("year()", x.year(), 0);
        Due.is("count(0)", x.count(0), 0);
        Due.is("the next dune", x.dune(47, 238080), 0);
        int[] due = {23, 8, 80, 4, 7};
        for (int what = 0; what < 5; what++) {
            Due.is("told(0, " + what + ")", x.told(0, what), due[what]);
        }
    }

    private static void backLeavesTheRest() {
        Due.sentence("back: what THE IMAGE doesn't keep stays: TEXTS, THE TAPE, SHEETS");
        DunesWalked x = dune(STANDS, 10);
        Due.is("image()", x.image(), 1);
        Due.feed(x, "walks 7;grows 0;needs 0;");
        Due.is("text()", x.text(), 2);
        Due.feed(x, "walks");
        x.sheet(3, 1, 5);
        x.cell(3, 4, 17);
        Due.is("back()", x.back(), 1);
        Due.is("TEXTS", x.count(5), 3);
        Due.is("bytes of THE TAPE", x.count(7), 5);
        Due.is("a SHEET's sort", Seen.sortOf(x, 3), 1);
        Due.is("how many it has", Seen.sizeOf(x, 3), 5);
        Due.is("force(2)", x.force(2), 1);
        Due.is("asks(0, 0)", x.asks(0, 0), 7);
        Due.is("text(): the tape is as it was", x.text(), -105);
        Due.is("the SHEET's number", Seen.number(x, 3, 4), 17);
    }

    private static void backAgain() {
        Due.sentence("back: THE IMAGE stays, and the last one kept counts");
        DunesWalked x = dune(STANDS, 10);
        x.image();
        x.put(0, 0, 11);
        for (int i = 0; i < 3; i++) {
            Due.is("back()", x.back(), 1);
            Due.is("FRONT", x.told(0, 0), 10);
            x.put(0, 0, 12);
            x.year();
        }
        x.image();
        x.put(0, 0, 13);
        Due.is("back()", x.back(), 1);
        Due.is("FRONT", x.told(0, 0), 12);
        Due.is("YEAR", x.count(2), 1);
    }

    private static void backWithoutImage() {
        Due.sentence("back: STATE: there is none");
        Due.is("back() of nothing", new DunesWalked().back(), -3);
        DunesWalked x = dune(STANDS, 10);
        Due.is("back()", x.back(), -3);
        Due.is("back() again", x.back(), -3);
        Due.is("FRONT", x.told(0, 0), 10);
        Due.is("image()", x.image(), 1);
        Due.is("back()", x.back(), 1);
    }
}
