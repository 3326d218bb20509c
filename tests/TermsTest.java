/** The Terms but for texts: each sentence of a bound, by the last that it allows and the first that it doesn't. */
public final class TermsTest {
    private static final int MIN = Integer.MIN_VALUE, MAX = Integer.MAX_VALUE;
    private static final String STANDS = "walks 0;grows 0;needs 0;";

    public static void main(String[] args) {
        yards();
        noneAtFirst();
        yearsFrom0To999();
        sixDunes();
        kindsAndMore();
        fronts();
        longs();
        highs();
        liesOnAsManyYardsAsItIsLong();
        belowTheSea();
        goneAreNone();
        goneKeepTheirNumbers();
        sand();
        dunesDoAsTheTextSays();
        walkedWalkMoreAtMost();
        walkedGrowHalfOnClover();
        blondWalkHalfAbove50();
        blondNeedMoreMore();
        abelsWalkInEvenYears();
        abelsNeedNothing();
        abelsGrowAsWalked();
        galesWalkTwice();
        galesGrowMoreLess();
        galesNeedAsBlond();
        still();
        walks0AtLeast();
        frontIs39AtMost();
        likeHighAreTakenUp();
        onAnyYard();
        halfOfItsHeight();
        takenUpTo99();
        othersByNumbers();
        dunesByNumbers();
        takenUpDoesNothingMore();
        growsTo0And99();
        needsExactly();
        allAsItIsThen();
        yearIsOneMoreAtLast();
        buried();
        Due.end();
    }

    private static DunesWalked still(int front, int size, int high) {
        return Due.one(STANDS, 0, 0, front, size, high);
    }

    /** The document's yards of a dune, yard by yard. */
    private static long yards(int front, int size) {
        long bits = 0;
        for (int y = front; y > front - size; y--) {
            bits |= y < 0 ? 0 : 1L << y;
        }
        return bits;
    }

    private static void yards() {
        Due.sentence("YARDS 0 .. 39");
        DunesWalked x = still(0, 1, 9);
        for (int y : new int[] {0, 39}) {
            Due.is("yard(" + y + ", 0, 1)", x.yard(y, 0, 1), 0);
            Due.is("yard(" + y + ", 1, 1)", x.yard(y, 1, 1), 0);
            x.put(0, 0, y);
            Due.is("FRONT at " + y, x.told(0, 0), y);
            Due.is("comes(" + y + ", 0)", x.comes(y, 0), 0);
        }
        for (int y : new int[] {-1, 40, 63, 64, MIN, MAX}) {
            Due.is("yard(" + y + ", 0, 1)", x.yard(y, 0, 1), -5);
            Due.is("put(0, 0, " + y + ")", x.put(0, 0, y), -7);
            Due.is("comes(" + y + ", 0)", x.comes(y, 0), -5);
        }
        Due.is("HOUSES", x.parish(0), 1L | 1L << 39);
        Due.is("CLOVER", x.parish(1), 1L | 1L << 39);
    }

    private static void noneAtFirst() {
        Due.sentence("a HOUSE or none, CLOVER or none (none at first)");
        for (int y = 0; y < 40; y++) {
            DunesWalked x = new DunesWalked();
            Due.is("yard(" + y + ", 0, 0)", x.yard(y, 0, 0), 0);
            Due.is("yard(" + y + ", 1, 0)", x.yard(y, 1, 0), 0);
        }
    }

    private static void yearsFrom0To999() {
        Due.sentence("YEAR (0 .. 999; 0 at first; in thought it may pass 999)");
        DunesWalked x = new DunesWalked();
        Due.is("YEAR at first", x.count(2), 0);
        Due.is("year()", x.year(), 0);
        Due.is("YEAR behind one", x.count(2), 1);
        // 999 lies beyond the calls that are promised of one object; that the bound holds is looked at all the same
        for (int i = 1; i < 999; i++) {
            x.year();
        }
        Due.is("YEAR at last", x.count(2), 999);
        Due.is("year() then", x.year(), -3);
        Due.is("YEAR behind it", x.count(2), 999);
        Due.law(x, "walks (year = 1038) * 9;grows 0;needs (year = 1038) * 99;");
        Due.dune(x, 0, 0, 0, 1, 50);
        Due.is("run(39, 10): YEAR is 1038 then", x.run(39, 10), 0);
        Due.is("run(40, 10): it was 1038 in the last one", x.run(40, 10), -1);
        Due.is("YEAR behind what was thought", x.count(2), 999);
    }

    private static void sixDunes() {
        Due.sentence("DUNES are numbered from 0 on, 6 at most");
        DunesWalked x = new DunesWalked();
        for (int d = 0; d < 6; d++) {
            Due.is("told(" + d + ", 0) ahead of it", x.told(d, 0), -5);
            Due.is("dune", x.dune(0, 1009), d);
            Due.is("told(" + d + ", 0)", x.told(d, 0), 0);
        }
        Due.is("a seventh dune", x.dune(0, 1009), -4);
        Due.is("told(6, 0)", x.told(6, 0), -5);
        Due.is("count(0)", x.count(0), 6);
    }

    private static void kindsAndMore() {
        Due.sentence("KINDS 0 .. 5, MORE (0 .. 9)");
        for (int kind = 0; kind < 6; kind++) {
            DunesWalked x = new DunesWalked();
            Due.is("dune of MORE 0", x.dune(10 * kind, 1009), 0);
            Due.is("dune of MORE 9", x.dune(10 * kind + 9, 1009), 1);
            for (int d = 0; d < 2; d++) {
                Due.is("KIND", x.told(d, 3), kind);
                Due.is("MORE", x.told(d, 4), 9 * d);
            }
        }
        DunesWalked y = new DunesWalked();
        Due.is("a dune of KIND -1", y.dune(-1, 1009), -2);
        Due.is("a dune of KIND -1", y.dune(-10, 1009), -2);
        Due.is("a dune of KIND 6", y.dune(60, 1009), -2);
        Due.is("count(0)", y.count(0), 0);
    }

    private static void fronts() {
        Due.sentence("FRONT at a YARD");
        DunesWalked x = new DunesWalked();
        Due.is("dune at 0", x.dune(0, 1009), 0);
        Due.is("dune at 39", x.dune(0, 391009), 1);
        Due.is("dune at 40", x.dune(0, 401009), -2);
        Due.is("dune below 0", x.dune(0, -8991), -2);
        Due.is("FRONT 0", x.told(0, 0), 0);
        Due.is("FRONT 39", x.told(1, 0), 39);
        Due.is("count(0)", x.count(0), 2);
    }

    private static void longs() {
        Due.sentence("LONG (1 .. 9)");
        DunesWalked x = new DunesWalked();
        Due.is("dune, LONG 1", x.dune(0, 391009), 0);
        Due.is("dune, LONG 9", x.dune(0, 399009), 1);
        Due.is("dune, LONG 0", x.dune(0, 390009), -2);
        Due.is("LONG 1", x.told(0, 1), 1);
        Due.is("LONG 9", x.told(1, 1), 9);
        Due.is("put LONG 9", x.put(0, 1, 9), 1);
        Due.is("put LONG 10", x.put(0, 1, 10), -7);
        Due.is("put LONG 1", x.put(0, 1, 1), 9);
        Due.is("put LONG 0", x.put(0, 1, 0), -7);
        Due.is("LONG", x.told(0, 1), 1);
    }

    private static void highs() {
        Due.sentence("HIGH (0 .. 99)");
        DunesWalked x = new DunesWalked();
        Due.is("dune, HIGH 0", x.dune(0, 1000), 0);
        Due.is("dune, HIGH 99", x.dune(0, 1099), 1);
        Due.is("dune, HIGH 100", x.dune(0, 1100), -2);
        Due.is("dune, HIGH 999", x.dune(0, 1999), -2);
        Due.is("HIGH 0", x.told(0, 2), 0);
        Due.is("HIGH 99", x.told(1, 2), 99);
        Due.is("put HIGH 99", x.put(0, 2, 99), 0);
        Due.is("put HIGH 100", x.put(0, 2, 100), -7);
        Due.is("put HIGH 0", x.put(0, 2, 0), 99);
        Due.is("put HIGH -1", x.put(0, 2, -1), -7);
        Due.is("HIGH", x.told(0, 2), 0);
    }

    private static void liesOnAsManyYardsAsItIsLong() {
        Due.sentence("it lies on so many YARDS as it is LONG: FRONT, and those behind it, to the sea");
        for (int size = 1; size <= 9; size++) {
            DunesWalked x = still(0, size, 9);
            for (int front = 0; front < 40; front++) {
                x.put(0, 0, front);
                Due.is("SAND, LONG " + size + " at " + front, x.parish(2), yards(front, size));
            }
        }
    }

    private static void belowTheSea() {
        Due.sentence("those below 0 are none");
        Due.is("SAND of LONG 9 at 0", still(0, 9, 9).parish(2), 1L);
        Due.is("SAND of LONG 9 at 7", still(7, 9, 9).parish(2), 255L);
        Due.is("SAND of LONG 9 at 8", still(8, 9, 9).parish(2), 511L);
        Due.is("SAND of LONG 9 at 9", still(9, 9, 9).parish(2), 1022L);
        DunesWalked x = still(0, 9, 9);
        for (int y = 0; y < 40; y++) {
            x.yard(y, 0, 1);
            x.yard(y, 1, y == 0 ? 0 : 1);
        }
        Due.is("told(0, 8)", x.told(0, 8), 1);
        Due.is("told(0, 5)", x.told(0, 5), 0);
        // behind the sea two dunes do not meet
        Due.dune(x, 0, 0, 1, 1, 9);
        Due.is("year()", x.year(), 0);
    }

    private static DunesWalked withAGoneOne() {
        DunesWalked x = Due.one("walks 0;grows 0;needs high=7;", 0, 0, 39, 9, 7);
        Due.is("year()", x.year(), 0);
        x.put(0, 2, 0);
        Due.law(x, "walks 0;grows 0;needs 1;");
        Due.is("year()", x.year(), 1);
        x.force(1);
        return x;
    }

    private static void goneAreNone() {
        Due.sentence("some are GONE: they are none any more; what follows tells of those alone that aren't");
        DunesWalked x = withAGoneOne();
        Due.houses(x, 39, 35);
        Due.sheet(x, 0, -1);
        Due.sheet(x, 1);
        Due.is("SAND", x.parish(2), 0);
        Due.is("BURIED", x.parish(3), 0);
        Due.is("run(0, 0)", x.run(0, 0), 0);
        Due.is("run(0, 1)", x.run(0, 1), 0);
        Due.is("run(40, 2)", x.run(40, 2), 0);
        Due.is("comes(39, 0)", x.comes(39, 0), -1);
        Due.is("first(0)", x.first(0), -1);
        Due.is("hold(9, 0)", x.hold(9, 0), -1);
        Due.is("whose(0)", x.whose(0), 0);
        Due.is("whose(1)", x.whose(1), 0);
        Due.is("drawn(0, 1)", x.drawn(0, 1), 0);
        Due.is("share(0, 0)", x.share(0, 0), 0);
        // it takes up none, none takes it up
        Due.is("dune on its yards", Due.dune(x, 5, 0, 39, 9, 50), 1);
        Due.is("year()", x.year(), 0);
        Due.is("HIGH of the other", x.told(1, 2), 50);
        Due.is("SAND", x.parish(2), yards(39, 9));
        Due.is("first(0)", x.first(0), 1);
        Due.is("comes(39, 2)", x.comes(39, 2), 1);
    }

    private static void goneKeepTheirNumbers() {
        Due.sentence("GONE: their numbers stay");
        DunesWalked x = withAGoneOne();
        Due.is("told(0, 0)", x.told(0, 0), -5);
        Due.is("the next dune", x.dune(0, 51009), 1);
        Due.is("told(1, 0)", x.told(1, 0), 5);
        Due.is("told(0, 0)", x.told(0, 0), -5);
        Due.is("count(0)", x.count(0), 2);
        Due.is("count(1)", x.count(1), 1);
        Due.is("run(0, 0)", x.run(0, 0), 2);
    }

    private static void sand() {
        Due.sentence("SAND: YARDS any lies on");
        DunesWalked x = new DunesWalked();
        Due.is("SAND of no dunes", x.parish(2), 0);
        Due.dune(x, 0, 0, 5, 3, 9);
        Due.dune(x, 0, 0, 6, 3, 9);
        Due.dune(x, 0, 0, 39, 2, 0);
        Due.is("SAND", x.parish(2), yards(6, 4) | yards(39, 2));
    }

    private static void tells(String call, DunesWalked x, int walks, int grows, int needs) {
        Due.is(call + " WALKS", x.told(0, 6), walks);
        Due.is(call + " GROWS", x.grows(0), grows);
        Due.is(call + " NEEDS", x.told(0, 7), needs);
    }

    private static void dunesDoAsTheTextSays() {
        Due.sentence("0 DUNE: that; that; that");
        int[][] said = {{0, 0, 0}, {9, 99, 99}, {4, -99, 50}};
        for (int[] s : said) {
            DunesWalked x = Due.one("walks " + s[0] + ";grows " + s[1] + ";needs " + s[2] + ";", 0, 9, 10, 1, 99);
            tells("on none", x, s[0], s[1], s[2]);
            Due.clover(x, 10);
            tells("on clover", x, s[0], s[1], s[2]);
        }
    }

    private static void walkedWalkMoreAtMost() {
        Due.sentence("1 WALKED: WALKS MORE at most");
        for (int said = 0; said < 10; said++) {
            for (int more = 0; more < 10; more++) {
                DunesWalked x = Due.one("walks " + said + ";grows 0;needs 7;", 1, more, 10, 1, 60);
                tells(said + " by MORE " + more, x, said < more ? said : more, 0, 7);
            }
        }
    }

    private static void walkedGrowHalfOnClover() {
        Due.sentence("1 WALKED: GROWS half (cut) on CLOVER");
        int[][] half = {{0, 0}, {1, 0}, {2, 1}, {7, 3}, {98, 49}, {99, 49}, {-1, 0}, {-2, -1}, {-7, -3}, {-99, -49}};
        for (int[] h : half) {
            DunesWalked x = Due.one("walks 2;grows " + h[0] + ";needs 7;", 1, 9, 10, 3, 60);
            Due.clover(x, 7, 11);
            tells("beside clover", x, 2, h[0], 7);
            Due.clover(x, 8);
            tells("on clover", x, 2, h[1], 7);
        }
    }

    private static void blondWalkHalfAbove50() {
        Due.sentence("2 BLOND: WALKS half (cut), if HIGH is above 50, else 1 more");
        for (int said = 0; said < 10; said++) {
            DunesWalked x = Due.one("walks " + said + ";grows 3;needs 7;", 2, 0, 10, 1, 50);
            for (int high : new int[] {0, 49, 50, 51, 99}) {
                x.put(0, 2, high);
                tells(said + " by HIGH " + high, x, high > 50 ? said / 2 : said + 1, 3, 7);
            }
        }
    }

    private static void blondNeedMoreMore() {
        Due.sentence("2 BLOND: NEEDS MORE more");
        for (int more = 0; more < 10; more++) {
            DunesWalked x = Due.one("walks 1;grows 3;needs 99;", 2, more, 10, 1, 50);
            Due.clover(x, 10);
            tells("MORE " + more, x, 2, 3, 99 + more);
            Due.law(x, "walks 1;grows 3;needs 0;");
            tells("MORE " + more, x, 2, 3, more);
        }
    }

    private static void abelsWalkInEvenYears() {
        Due.sentence("3 ABELS: WALKS as a WALKED, if YEAR is even, else 0");
        DunesWalked x = Due.one("walks 5;grows 0;needs 0;", 3, 4, 0, 1, 50);
        Due.dune(x, 3, 6, 0, 1, 40);
        int[] fronts = {0, 4, 4, 8, 8};
        for (int year = 0; year < 5; year++) {
            Due.is("WALKS of MORE 4 in YEAR " + year, x.told(0, 6), year % 2 == 0 ? 4 : 0);
            Due.is("run(" + year + ", 10)", Due.one("walks 5;grows 0;needs 0;", 3, 4, 0, 1, 50).run(year, 10),
                fronts[year]);
            x.year();
        }
        Due.is("WALKS of MORE 6", Due.one("walks 5;grows 0;needs 0;", 3, 6, 0, 1, 50).told(0, 6), 5);
        Due.is("WALKS of MORE 0", Due.one("walks 5;grows 0;needs 0;", 3, 0, 0, 1, 50).told(0, 6), 0);
    }

    private static void abelsNeedNothing() {
        Due.sentence("3 ABELS: NEEDS 0");
        DunesWalked x = Due.one("walks 0;grows -99;needs 99;", 3, 9, 10, 1, 50);
        Due.is("NEEDS", x.told(0, 7), 0);
        Due.is("year()", x.year(), 0);
        Due.is("HIGH", x.told(0, 2), 0);
        Due.is("ends(0)", x.ends(0), -1);
    }

    private static void abelsGrowAsWalked() {
        Due.sentence("whatever isn't told is as of the KIND above: ABELS GROW as WALKED");
        for (int said : new int[] {7, -7, 99, -99, 1, -1}) {
            DunesWalked x = Due.one("walks 0;grows " + said + ";needs 9;", 3, 9, 10, 1, 50);
            Due.is("GROWS off clover", x.grows(0), said);
            Due.clover(x, 10);
            Due.is("GROWS on clover", x.grows(0), said / 2);
        }
    }

    private static void galesWalkTwice() {
        Due.sentence("4 GALE: WALKS twice a BLOND's");
        for (int said = 0; said < 10; said++) {
            DunesWalked x = Due.one("walks " + said + ";grows 0;needs 0;", 4, 3, 10, 1, 50);
            Due.is("WALKS of " + said + ", HIGH 50", x.told(0, 6), 2 * (said + 1));
            x.put(0, 2, 51);
            Due.is("WALKS of " + said + ", HIGH 51", x.told(0, 6), 2 * (said / 2));
        }
        DunesWalked y = Due.one("walks 9;grows 0;needs 0;", 4, 0, 0, 1, 50);
        Due.is("run(1, 10): it walks 20", y.run(1, 10), 20);
    }

    private static void galesGrowMoreLess() {
        Due.sentence("4 GALE: GROWS MORE less");
        for (int more : new int[] {0, 1, 9}) {
            for (int said : new int[] {-99, 0, 8, 99}) {
                DunesWalked x = Due.one("walks 0;grows " + said + ";needs 0;", 4, more, 10, 1, 50);
                Due.is("GROWS off clover", x.grows(0), said - more);
                Due.clover(x, 10);
                Due.is("GROWS on clover", x.grows(0), said - more);
            }
        }
    }

    private static void galesNeedAsBlond() {
        Due.sentence("whatever isn't told is as of the KIND above: GALES NEED as BLOND");
        for (int more : new int[] {0, 9}) {
            Due.is("NEEDS", Due.one("walks 0;grows 0;needs 0;", 4, more, 10, 1, 50).told(0, 7), more);
            Due.is("NEEDS", Due.one("walks 0;grows 0;needs 99;", 4, more, 10, 1, 50).told(0, 7), 99 + more);
        }
    }

    private static void still() {
        Due.sentence("5 STILL: WALKS 0; GROWS 0 less MORE on CLOVER, else 0; NEEDS as a DUNE");
        for (int more : new int[] {0, 1, 9}) {
            DunesWalked x = Due.one("walks 9;grows 99;needs 44;", 5, more, 10, 3, 50);
            Due.clover(x, 7, 11);
            tells("beside clover", x, 0, 0, 44);
            Due.clover(x, 9);
            tells("on clover", x, 0, -more, 44);
        }
    }

    private static void walks0AtLeast() {
        Due.sentence("WALKS 0 at least");
        int[] low = {0, 0, 1, 0, 2, 0};
        for (int kind = 0; kind < 6; kind++) {
            DunesWalked x = Due.one("walks -9999;grows 0;needs 0;", kind, 9, 10, 1, 50);
            Due.is("WALKS of KIND " + kind + ", HIGH 50", x.told(0, 6), low[kind]);
            x.put(0, 2, 51);
            Due.is("WALKS of KIND " + kind + ", HIGH 51", x.told(0, 6), 0);
            x.year();
            Due.is("FRONT of KIND " + kind, x.told(0, 0), 10);
        }
    }

    private static void frontIs39AtMost() {
        Due.sentence("FRONT is as much further as it WALKS (39 at most)");
        int[][] from = {{29, 38}, {30, 39}, {31, 39}, {38, 39}, {39, 39}};
        for (int[] f : from) {
            DunesWalked x = Due.one("walks 9;grows 0;needs 0;", 0, 0, f[0], 1, 50);
            x.year();
            Due.is("FRONT behind a year from " + f[0], x.told(0, 0), f[1]);
            Due.is("SAND", x.parish(2), 1L << f[1]);
        }
        int[][] gale = {{18, 38}, {19, 39}, {20, 39}, {39, 39}};
        for (int[] f : gale) {
            DunesWalked x = Due.one("walks 9;grows 0;needs 0;", 4, 0, f[0], 1, 50);
            x.year();
            Due.is("FRONT of a gale behind a year from " + f[0], x.told(0, 0), f[1]);
        }
    }

    private static void likeHighAreTakenUp() {
        Due.sentence("each that isn't HIGHER than it is GONE");
        int[][] due = {{19, 2, 29}, {20, 2, 30}, {21, 1, 31}};
        for (int[] d : due) {
            DunesWalked x = still(10, 1, 20);
            Due.dune(x, 0, 0, 10, 1, d[0]);
            Due.is("year() with " + d[0] + " on 20", x.year(), d[1]);
            Due.is("HIGH of the one that is left", x.told(d[1] == 2 ? 0 : 1, 2), d[2]);
        }
        DunesWalked y = still(10, 1, 0);
        Due.dune(y, 0, 0, 10, 1, 0);
        Due.is("year() of two of no height", y.year(), 2);
    }

    private static void onAnyYard() {
        Due.sentence("each that lies on any of its YARDS");
        for (int front = 0; front < 40; front++) {
            for (int size : new int[] {1, 2, 9}) {
                DunesWalked x = still(20, 3, 50);
                Due.dune(x, 0, 0, front, size, 1);
                boolean meets = (yards(front, size) & yards(20, 3)) != 0;
                Due.is("year() with one LONG " + size + " at " + front, x.year(), meets ? 2 : 0);
            }
        }
    }

    private static void halfOfItsHeight() {
        Due.sentence("it is HIGHER by half (cut) of that one's HIGH");
        for (int high : new int[] {0, 1, 2, 3, 48, 49, 50}) {
            DunesWalked x = still(10, 1, 50);
            Due.dune(x, 0, 0, 10, 1, high);
            x.year();
            Due.is("HIGH behind taking up " + high, x.told(0, 2), 50 + high / 2);
        }
    }

    private static void takenUpTo99() {
        Due.sentence("HIGHER by half of that one's HIGH (99 at most)");
        int[][] due = {{97, 3, 98}, {97, 4, 99}, {98, 2, 99}, {98, 4, 99}, {99, 99, 99}, {66, 66, 99}, {65, 66, 98}};
        for (int[] d : due) {
            DunesWalked x = still(10, 1, d[0]);
            Due.dune(x, 5, 0, 10, 1, d[1]);
            x.year();
            Due.is("HIGH of " + d[0] + " and " + d[1], x.told(d[1] > d[0] ? 1 : 0, 2), d[2]);
        }
        // it is bound ahead of what it grows
        DunesWalked y = Due.one("walks 0;grows -5;needs 0;", 0, 0, 10, 1, 90);
        Due.dune(y, 0, 0, 10, 1, 90);
        y.year();
        Due.is("HIGH when it shrinks by 5 then", y.told(0, 2), 94);
    }

    private static void othersByNumbers() {
        Due.sentence("then of all others, by numbers");
        // dune 0 takes up none; dune 1 lies on all: 11 and half of 10 is 16, and half of 16 is 24, and half of 24 is 36
        DunesWalked x = still(10, 1, 10);
        Due.dune(x, 5, 0, 10, 9, 11);
        Due.dune(x, 5, 0, 9, 1, 16);
        Due.dune(x, 5, 0, 8, 1, 24);
        Due.is("year()", x.year(), 1 + 4 + 8);
        Due.is("HIGH", x.told(1, 2), 36);
        // the other way round: when 24 and 16 are looked at, dune 0 is 11; behind 10 it is 16, and dune 1 takes it up
        DunesWalked y = still(10, 9, 11);
        Due.dune(y, 5, 0, 9, 1, 24);
        Due.dune(y, 5, 0, 8, 1, 16);
        Due.dune(y, 5, 0, 7, 1, 10);
        Due.is("year()", y.year(), 8 + 1);
        Due.is("HIGH of dune 1", y.told(1, 2), 32);
        Due.is("HIGH of dune 2", y.told(2, 2), 16);
    }

    private static void dunesByNumbers() {
        Due.sentence("A YEAR: dune by dune, by numbers");
        DunesWalked x = Due.one("walks 3;grows 0;needs 0;", 0, 0, 7, 1, 20);
        Due.dune(x, 0, 0, 10, 1, 20);
        Due.is("year(): dune 0 walks first", x.year(), 2);
        DunesWalked y = Due.one("walks 3;grows 0;needs 0;", 0, 0, 10, 1, 20);
        Due.dune(y, 0, 0, 7, 1, 20);
        Due.is("year(): dune 0 is away first", y.year(), 0);
        // a whole year of dune 0, its growth too, lies ahead of dune 1
        DunesWalked z = Due.one("walks 0;grows 1;needs 0;", 0, 0, 10, 1, 20);
        Due.dune(z, 0, 0, 10, 1, 21);
        Due.is("year(): dune 0 has grown then", z.year(), 1);
        Due.is("HIGH of dune 1", z.told(1, 2), 21 + 10 + 1);
    }

    private static void takenUpDoesNothingMore() {
        Due.sentence("one that is GONE is none: it walks and takes up no more in that year");
        DunesWalked x = Due.one("walks 3;grows 0;needs 0;", 0, 0, 7, 1, 50);
        Due.dune(x, 0, 0, 10, 1, 40);
        Due.dune(x, 0, 0, 13, 1, 5);
        Due.is("year()", x.year(), 2);
        Due.is("HIGH of dune 0", x.told(0, 2), 70);
        Due.is("FRONT of dune 2", x.told(2, 0), 16);
        Due.is("its height as last", x.taken(7, 6), 40);
    }

    private static void growsTo0And99() {
        Due.sentence("then it is HIGHER by what it GROWS (0 .. 99, else the bound)");
        int[][] due = {{98, 1, 99}, {99, 1, 99}, {0, 99, 99}, {1, 99, 99}, {1, -1, 0}, {0, -1, 0}, {99, -99, 0},
            {98, -99, 0}, {99, -98, 1}};
        for (int[] d : due) {
            DunesWalked x = Due.one("walks 0;grows " + d[1] + ";needs 0;", 0, 0, 10, 1, d[0]);
            Due.is("year()", x.year(), 0);
            Due.is("HIGH of " + d[0] + " by " + d[1], x.told(0, 2), d[2]);
        }
        // gales and still ones may shrink by more than a text can say
        DunesWalked y = Due.one("walks 0;grows -99;needs 0;", 4, 9, 10, 1, 99);
        Due.is("year() of a gale, which needs its MORE", y.year(), 1);
        Due.is("its height as last", y.taken(6, 6), 0);
        DunesWalked z = Due.one("walks 0;grows 0;needs 0;", 5, 9, 10, 1, 8);
        Due.clover(z, 10);
        Due.is("year() of a still one", z.year(), 0);
        Due.is("its height", z.told(0, 2), 0);
    }

    private static void needsExactly() {
        Due.sentence("then, if it is less HIGH than it NEEDS, it is GONE");
        int[][] due = {{30, 30, 0}, {30, 31, 1}, {0, 0, 0}, {0, 1, 1}, {99, 99, 0}, {98, 99, 1}};
        for (int[] d : due) {
            DunesWalked x = Due.one("walks 0;grows 0;needs " + d[1] + ";", 0, 0, 10, 1, d[0]);
            Due.is("year() of HIGH " + d[0] + ", NEEDS " + d[1], x.year(), d[2]);
        }
        Due.is("year() of HIGH 99, NEEDS 100", Due.one("walks 0;grows 0;needs 99;", 2, 1, 10, 1, 99).year(), 1);
        Due.is("year() of HIGH 99, NEEDS 99", Due.one("walks 0;grows 0;needs 99;", 2, 0, 10, 1, 99).year(), 0);
    }

    private static void allAsItIsThen() {
        Due.sentence("(All told as it is then.)");
        DunesWalked x = Due.one("walks at<10;grows (at=10)*3+(high=30)*4;needs (at=10)*(high=37)*38;", 0, 0, 9, 1, 30);
        Due.is("run(1, 0): GROWS at 10 by HIGH 30, NEEDS at 10 by HIGH 37", x.run(1, 0), 0);
        DunesWalked y = Due.one("walks 1;grows (high = 35) * 4;needs 0;", 0, 0, 9, 1, 30);
        Due.dune(y, 5, 0, 10, 1, 10);
        y.year();
        Due.is("HIGH: it GROWS by the HIGH behind taking up", y.told(0, 2), 39);
        DunesWalked z = Due.one("walks 2;grows 0 - 9 * clover;needs 0;", 0, 0, 9, 1, 30);
        Due.clover(z, 9);
        z.year();
        Due.is("HIGH: clover where it was does nothing", z.told(0, 2), 30);
    }

    private static void yearIsOneMoreAtLast() {
        Due.sentence("At last YEAR is 1 more");
        DunesWalked x = Due.one("walks year + 1;grows year;needs year * 40;", 0, 0, 9, 1, 30);
        Due.dune(x, 0, 0, 30, 1, 42);
        Due.is("year()", x.year(), 0);
        Due.is("YEAR", x.count(2), 1);
        Due.is("FRONT of dune 0", x.told(0, 0), 10);
        Due.is("FRONT of dune 1", x.told(1, 0), 31);
        Due.is("HIGH of dune 1", x.told(1, 2), 42);
        Due.is("year()", x.year(), 1);
        Due.is("FRONT of dune 1", x.told(1, 0), 33);
        Due.is("HIGH of dune 1", x.told(1, 2), 43);
        Due.is("year() without dunes", new DunesWalked().year(), 0);
    }

    private static void buried() {
        Due.sentence("BURIED: HOUSES under SAND");
        DunesWalked x = still(10, 3, 9);
        Due.houses(x, 7, 8, 10, 11);
        Due.is("BURIED", x.parish(3), 1L << 8 | 1L << 10);
        Due.is("run(0, 1)", x.run(0, 1), 2);
        DunesWalked y = still(10, 3, 9);
        Due.is("BURIED without houses", y.parish(3), 0);
    }
}
