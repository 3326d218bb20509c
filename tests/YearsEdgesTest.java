/** Promises 13 to 21: each sentence of a bound or a refusal, by the last that is taken and the first that isn't. */
public final class YearsEdgesTest {
    private static final int MIN = Integer.MIN_VALUE, MAX = Integer.MAX_VALUE;
    private static final long NO = -4611686018427387904L;
    private static final String STANDS = "walks 0;grows 0;needs 0;";

    public static void main(String[] args) {
        yearTellsGone();
        runOfNoYears();
        runOfFortyYears();
        runTogether();
        runFrontAndHigh();
        runOfOneGoneThen();
        runRefusesYears();
        runRefusesWhat();
        runRefusesNoSuchDune();
        comesNow();
        comesInTheFortieth();
        comesNever();
        comesOnEnd();
        comesOnEndTheFirst();
        comesNoneAbove40();
        comesUnderTheFirst();
        comesRefuses();
        endsInOneToForty();
        endsRefuses();
        firstNow();
        firstInTheFortieth();
        firstOfLikeOnes();
        firstNone();
        firstRefuses();
        sowEveryYard();
        sowOfLikeOnesTheFirst();
        sowWithoutClover();
        sowNone();
        sowYears();
        sowRefuses();
        moveEveryYard();
        moveOfLikeOnesTheFirst();
        moveWithAHouseToOneWithout();
        moveNone();
        moveYears();
        moveRefuses();
        holdEveryDune();
        holdOfLikeOnesTheFirst();
        holdNone();
        holdYears();
        holdRefuses();
        shareLowestTerms();
        shareYears();
        shareRefuses();
        Due.end();
    }

    /** A dune of height 50 that stands, or that is moved by what the text says. */
    private static DunesWalked dune(String text, int front, int size) {
        return Due.one(text, 0, 0, front, size, 50);
    }

    private static DunesWalked six(String text) {
        DunesWalked x = new DunesWalked();
        Due.law(x, text);
        for (int d = 0; d < 6; d++) {
            Due.is("dune", Due.dune(x, 0, 0, 2 + 5 * d, 1, 50), d);
        }
        return x;
    }

    private static void yearTellsGone() {
        Due.sentence("year: which are GONE in it (bits)");
        Due.is("year() of no dunes", new DunesWalked().year(), 0);
        Due.is("year() of six", six(STANDS).year(), 0);
        for (int d = 0; d < 6; d++) {
            DunesWalked x = six("walks 0;grows 0;needs 99*(at=" + (2 + 5 * d) + ");");
            Due.is("year() with dune " + d + " GONE", x.year(), 1 << d);
            Due.is("year(): it was GONE", x.year(), 0);
        }
        DunesWalked y = six("walks 0;grows 0;needs 99;");
        Due.is("year() with all GONE", y.year(), 63);
        Due.is("year() of none", y.year(), 0);
        Due.is("YEAR", y.count(2), 2);
    }

    private static void runOfNoYears() {
        Due.sentence("run: n YEARS (0 ..)");
        DunesWalked x = dune("walks 9;grows 9;needs 99;", 10, 3);
        Due.houses(x, 8, 10);
        int[] due = {1, 2, 0};
        for (int what = 0; what < 3; what++) {
            Due.is("run(0, " + what + ")", x.run(0, what), due[what]);
        }
        Due.is("run(0, 10)", x.run(0, 10), 10);
        Due.is("run(0, 20)", x.run(0, 20), 50);
        Due.is("run(1, 0)", x.run(1, 0), 0);
    }

    private static void runOfFortyYears() {
        Due.sentence("run: n YEARS (.. 40)");
        DunesWalked x = dune("walks 5*(year=39);grows (year=39);needs 0;", 10, 1);
        Due.houses(x, 15);
        Due.is("run(39, 10)", x.run(39, 10), 10);
        Due.is("run(40, 10)", x.run(40, 10), 15);
        Due.is("run(39, 20)", x.run(39, 20), 50);
        Due.is("run(40, 20)", x.run(40, 20), 51);
        Due.is("run(39, 1)", x.run(39, 1), 0);
        Due.is("run(40, 1)", x.run(40, 1), 1);
        Due.is("run(39, 2)", x.run(39, 2), 0);
        Due.is("run(40, 2)", x.run(40, 2), 1);
        DunesWalked y = six("walks 0;grows 0;needs 99*(year=39);");
        Due.is("run(39, 0)", y.run(39, 0), 63);
        Due.is("run(40, 0)", y.run(40, 0), 0);
    }

    private static void runTogether() {
        Due.sentence("run: how many HOUSES are BURIED behind each of them, together (2)");
        DunesWalked x = dune(STANDS, 8, 9);
        for (int y = 0; y < 9; y++) {
            x.yard(y, 0, 1);
        }
        for (int n = 0; n <= 40; n++) {
            Due.is("run(" + n + ", 2)", x.run(n, 2), 9 * n);
            Due.is("run(" + n + ", 1)", x.run(n, 1), 9);
        }
        DunesWalked all = new DunesWalked();
        Due.law(all, STANDS);
        for (int y = 0; y < 40; y++) {
            all.yard(y, 0, 1);
        }
        for (int d = 0; d < 5; d++) {
            Due.dune(all, 0, 0, d < 4 ? 8 + 9 * d : 39, d < 4 ? 9 : 4, 9);
        }
        Due.is("run(0, 1) of all", all.run(0, 1), 40);
        Due.is("run(40, 1) of all", all.run(40, 1), 40);
        Due.is("run(40, 2) of all", all.run(40, 2), 1600);
        Due.is("run(1, 2) without houses", dune(STANDS, 8, 9).run(1, 2), 0);
    }

    private static void runFrontAndHigh() {
        Due.sentence("run: FRONT of dune what less 10 (10 ..), HIGH of dune what less 20 (20 ..)");
        DunesWalked x = six(STANDS);
        for (int d = 0; d < 6; d++) {
            x.put(d, 2, 90 + d);
        }
        for (int n : new int[] {0, 1, 40}) {
            for (int d = 0; d < 6; d++) {
                Due.is("run(" + n + ", " + (10 + d) + ")", x.run(n, 10 + d), 2 + 5 * d);
                Due.is("run(" + n + ", " + (20 + d) + ")", x.run(n, 20 + d), 90 + d);
            }
        }
        DunesWalked y = dune("walks 0;grows -99;needs 0;", 0, 1);
        Due.is("run(1, 10): FRONT 0 is no -1", y.run(1, 10), 0);
        Due.is("run(1, 20): HIGH 0 is no -1", y.run(1, 20), 0);
        Due.is("run(1, 0): nor is it GONE", y.run(1, 0), 1);
    }

    private static void runOfOneGoneThen() {
        Due.sentence("run: -1: it is GONE then");
        DunesWalked x = dune("walks 1;grows 0;needs 99*(year=3);", 10, 1);
        Due.is("run(3, 10)", x.run(3, 10), 13);
        Due.is("run(3, 20)", x.run(3, 20), 50);
        for (int n : new int[] {4, 5, 40}) {
            Due.is("run(" + n + ", 10)", x.run(n, 10), -1);
            Due.is("run(" + n + ", 20)", x.run(n, 20), -1);
        }
    }

    private static void runRefusesYears() {
        Due.sentence("run: BAD: n");
        DunesWalked x = dune("walks 1;grows 0;needs 99*(year=3);", 10, 1);
        for (int n : new int[] {-1, 41, MIN, MAX}) {
            // the last two would be -1 then: the refusal comes first
            for (int what : new int[] {0, 1, 2, 10, 20, 3, 11}) {
                Due.is("run(" + n + ", " + what + ")", x.run(n, what), -2);
            }
        }
    }

    private static void runRefusesWhat() {
        Due.sentence("run: BAD: what");
        DunesWalked x = six(STANDS);
        for (int what : new int[] {-1, 3, 9, 16, 19, 26, 30, 36, MIN, MAX, MIN + 10, MIN + 20}) {
            Due.is("run(0, " + what + ")", x.run(0, what), -2);
            Due.is("run(40, " + what + ")", x.run(40, what), -2);
        }
    }

    private static void runRefusesNoSuchDune() {
        Due.sentence("run: BAD: there is no such dune");
        for (int what : new int[] {10, 15, 20, 25}) {
            Due.is("run(1, " + what + ") of no dunes", new DunesWalked().run(1, what), -2);
        }
        DunesWalked x = dune("walks 0;grows 0;needs 99*(at=10);", 10, 1);
        Due.dune(x, 0, 0, 20, 1, 9);
        Due.is("run(1, 10)", x.run(1, 10), -1);
        Due.is("run(1, 11)", x.run(1, 11), 20);
        Due.is("run(1, 12)", x.run(1, 12), -2);
        Due.is("run(1, 22)", x.run(1, 22), -2);
        Due.is("year()", x.year(), 1);
        Due.is("run(1, 10) of a GONE one", x.run(1, 10), -2);
        Due.is("run(0, 20) of a GONE one", x.run(0, 20), -2);
        Due.is("run(1, 11)", x.run(1, 11), 20);
        Due.is("run(1, 21)", x.run(1, 21), 9);
    }

    private static void comes(DunesWalked x, int y, int when, int onEnd, int under) {
        Due.is("comes(" + y + ", 0)", x.comes(y, 0), when);
        Due.is("comes(" + y + ", 1)", x.comes(y, 1), onEnd);
        Due.is("comes(" + y + ", 2)", x.comes(y, 2), under);
    }

    private static void comesNow() {
        Due.sentence("comes: behind how many YEARS (0 ..)");
        DunesWalked x = dune("walks 9;grows 0;needs 0;", 10, 3);
        for (int y = 8; y <= 10; y++) {
            comes(x, y, 0, 1, 0);
        }
        comes(x, 11, -1, 0, -1);
        comes(x, 7, -1, 0, -1);
        comes(x, 17, 1, 1, 0);
        DunesWalked z = dune("walks 1;grows 0;needs 0;", 0, 1);
        for (int y = 0; y < 39; y++) {
            comes(z, y, y, 1, 0);
        }
    }

    private static void comesInTheFortieth() {
        Due.sentence("comes: behind how many YEARS (.. 40)");
        comes(dune("walks 5*(year=39);grows 0;needs 0;", 10, 1), 15, 40, 1, 0);
        comes(dune("walks 1-(year=0);grows 0;needs 0;", 0, 1), 39, 40, 1, 0);
        comes(dune("walks 5*(year=40);grows 0;needs 0;", 10, 1), 15, -1, 0, -1);
        comes(dune("walks 1-(year<2);grows 0;needs 0;", 0, 1), 39, -1, 0, -1);
    }

    private static void comesNever() {
        Due.sentence("comes: -1: never; never: 0");
        for (int y : new int[] {0, 9, 11, 39}) {
            comes(dune(STANDS, 10, 1), y, -1, 0, -1);
            comes(new DunesWalked(), y, -1, 0, -1);
        }
    }

    private static void comesOnEnd() {
        Due.sentence("comes: behind how many on end");
        for (int size = 1; size <= 9; size++) {
            comes(dune("walks 1;grows 0;needs 0;", 10, size), 15, 5, size, 0);
            comes(dune("walks 1;grows 0;needs 0;", 10, size), 10, 0, size, 0);
        }
        // one is GONE while it lies there
        comes(dune("walks 1;grows 0;needs 99*(year=6);", 10, 9), 15, 5, 2, 0);
        // two in turn are on end; the first time it was the one ahead
        DunesWalked x = dune("walks 1;grows 0;needs 0;", 10, 2);
        Due.dune(x, 0, 0, 8, 1, 50);
        comes(x, 15, 5, 3, 0);
    }

    private static void comesOnEndTheFirst() {
        Due.sentence("comes: that one the first");
        DunesWalked x = dune("walks 1;grows 0;needs 0;", 5, 3);
        Due.dune(x, 0, 0, 10, 2, 50);
        comes(x, 12, 2, 2, 1);
        comes(x, 10, 0, 2, 1);
        comes(x, 9, 0, 1, 1);
        comes(x, 8, 3, 3, 0);
    }

    private static void comesNoneAbove40() {
        Due.sentence("comes: none above 40");
        comes(dune(STANDS, 10, 1), 10, 0, 41, 0);
        comes(dune("walks 1;grows 0;needs 0;", 0, 1), 39, 39, 2, 0);
        comes(dune("walks 1;grows 0;needs 0;", 38, 1), 39, 1, 40, 0);
        comes(dune("walks 0;grows 0;needs 99*(year=39);", 10, 1), 10, 0, 40, 0);
        comes(dune("walks 0;grows 0;needs 99*(year=40);", 10, 1), 10, 0, 41, 0);
    }

    private static void comesUnderTheFirst() {
        Due.sentence("comes: under which dune it is that first time, of several the first");
        DunesWalked x = six(STANDS);
        for (int d = 0; d < 6; d++) {
            comes(x, 2 + 5 * d, 0, 41, d);
        }
        x.put(3, 0, 27);
        x.put(4, 0, 27);
        Due.is("comes(27, 2) of three", x.comes(27, 2), 3);
        DunesWalked y = dune("walks 1;grows 0;needs 0;", 9, 1);
        Due.dune(y, 5, 0, 11, 1, 99);
        Due.dune(y, 5, 0, 10, 1, 99);
        comes(y, 10, 0, 41, 2);
        DunesWalked z = dune("walks 2;grows 0;needs 0;", 8, 1);
        Due.dune(z, 2, 0, 7, 1, 50);
        // both come to 10 in the first year; dune 1 takes up dune 0 there
        comes(z, 10, 1, 1, 1);
        DunesWalked w = dune("walks 2;grows 0;needs 0;", 8, 1);
        Due.dune(w, 2, 0, 7, 1, 40);
        comes(w, 10, 1, 1, 0);
    }

    private static void comesRefuses() {
        Due.sentence("comes: -5: no such YARD; -7: what");
        DunesWalked x = dune(STANDS, 39, 9);
        for (int y : new int[] {-1, 40, MIN, MAX}) {
            for (int what = -1; what < 4; what++) {
                Due.is("comes(" + y + ", " + what + ")", x.comes(y, what), -5);
            }
        }
        for (int y : new int[] {0, 39}) {
            for (int what : new int[] {-1, 3, MIN, MAX}) {
                Due.is("comes(" + y + ", " + what + ")", x.comes(y, what), -7);
            }
        }
    }

    private static void endsInOneToForty() {
        Due.sentence("ends: behind how many YEARS (1 .. 40) a dune is GONE; -1: not by then");
        for (int year = 0; year < 42; year++) {
            DunesWalked x = dune("walks 0;grows 0;needs 99*(year=" + year + ");", 10, 1);
            Due.is("ends(0) when it goes in YEAR " + year, x.ends(0), year < 40 ? year + 1 : -1);
        }
        Due.is("ends(0) of one that stands", dune(STANDS, 10, 1).ends(0), -1);
        DunesWalked y = six("walks 0;grows 0;needs 99*(year=2)*(at=27);");
        for (int d = 0; d < 6; d++) {
            Due.is("ends(" + d + ")", y.ends(d), d == 5 ? 3 : -1);
        }
    }

    private static void endsRefuses() {
        Due.sentence("ends: -5: no such dune");
        DunesWalked x = dune("walks 0;grows 0;needs 99*(at=10);", 10, 1);
        Due.dune(x, 0, 0, 20, 1, 9);
        Due.is("ends(0)", x.ends(0), 1);
        Due.is("year()", x.year(), 1);
        for (int d : new int[] {-1, 0, 2, 5, 6, MIN, MAX}) {
            Due.is("ends(" + d + ")", x.ends(d), -5);
        }
        Due.is("ends(1)", x.ends(1), -1);
    }

    private static void first(DunesWalked x, int dune, int years) {
        Due.is("first(0)", x.first(0), dune);
        Due.is("first(1)", x.first(1), years);
    }

    private static void firstNow() {
        Due.sentence("first: behind the fewest YEARS (0 ..)");
        first(dune(STANDS, 39, 1), 0, 0);
        first(dune("walks 1;grows 0;needs 0;", 38, 1), 0, 1);
        DunesWalked x = six(STANDS);
        x.put(5, 0, 39);
        first(x, 5, 0);
    }

    private static void firstInTheFortieth() {
        Due.sentence("first: behind the fewest YEARS (.. 40)");
        first(dune("walks (year=39);grows 0;needs 0;", 38, 1), 0, 40);
        first(dune("walks (year=40);grows 0;needs 0;", 38, 1), -1, -1);
    }

    private static void firstOfLikeOnes() {
        Due.sentence("first: of like ones the first");
        DunesWalked x = six("walks 1;grows 0;needs 0;");
        // both come to 39 in a year, and stand there, since dune 2 is too high for dune 3
        x.put(2, 0, 38);
        x.put(2, 2, 90);
        x.put(3, 0, 38);
        first(x, 2, 1);
        // now dune 3 takes up dune 2 there
        x.put(2, 2, 50);
        x.put(3, 2, 90);
        first(x, 3, 1);
        x.put(2, 0, 39);
        x.put(3, 0, 39);
        first(x, 2, 0);
        x.put(1, 0, 39);
        first(x, 1, 0);
    }

    private static void firstNone() {
        Due.sentence("first: -1: none");
        first(new DunesWalked(), -1, -1);
        first(dune(STANDS, 38, 9), -1, -1);
        // it comes to 39 in the year in which it is GONE
        first(dune("walks 1;grows 0;needs 99*(at=39);", 30, 1), -1, -1);
        first(dune("walks 1;grows 0;needs 99*(at=39)*(year=9);", 30, 1), 0, 9);
    }

    private static void firstRefuses() {
        Due.sentence("first: BAD");
        for (int what : new int[] {-1, 2, MIN, MAX}) {
            Due.is("first(" + what + ")", dune(STANDS, 39, 1).first(what), -2);
            Due.is("first(" + what + ") of none", new DunesWalked().first(what), -2);
        }
    }

    private static void sow(DunesWalked x, int n, int yard, int together) {
        Due.is("sow(" + n + ", 0)", x.sow(n, 0), yard);
        Due.is("sow(" + n + ", 1)", x.sow(n, 1), together);
    }

    private static final String CLOVER_ENDS = "walks 0;grows 0-99*clover;needs 1;";

    private static void sowEveryYard() {
        Due.sentence("sow: the YARD on which it should be sown");
        for (int y = 0; y < 40; y++) {
            DunesWalked x = dune(CLOVER_ENDS, y, 1);
            Due.houses(x, y);
            sow(x, 5, y, 0);
            Due.is("CLOVER behind it", x.parish(1), 0);
        }
    }

    private static void sowOfLikeOnesTheFirst() {
        Due.sentence("sow: of like ones the first");
        DunesWalked x = dune(CLOVER_ENDS, 20, 9);
        Due.houses(x, 12, 20);
        sow(x, 5, 12, 0);
        // the least, not the first that is less
        DunesWalked y = dune(CLOVER_ENDS, 10, 1);
        Due.dune(y, 0, 0, 30, 2, 50);
        Due.houses(y, 10, 29, 30);
        sow(y, 5, 29, 5);
    }

    private static void sowWithoutClover() {
        Due.sentence("sow: the YARD without CLOVER");
        DunesWalked x = dune("walks 0;grows 0-(year=0)*clover*(at=20)*99;needs 1;", 20, 3);
        Due.houses(x, 19);
        sow(x, 5, 18, 0);
        Due.clover(x, 18);
        // as it is it ends: no further sowing is less
        sow(x, 5, -1, 0);
        DunesWalked all = dune(STANDS, 20, 3);
        Due.houses(all, 19);
        for (int y = 0; y < 40; y++) {
            all.yard(y, 1, 1);
        }
        sow(all, 5, -1, 5);
    }

    private static void sowNone() {
        Due.sentence("sow: if less than so (what 0; -1: none), that (1; as so)");
        sow(new DunesWalked(), 20, -1, 0);
        DunesWalked x = dune(STANDS, 20, 3);
        Due.houses(x, 18, 19);
        sow(x, 5, -1, 10);
        // sowing makes it worse
        DunesWalked y = dune("walks 0;grows 0;needs 99-99*clover;", 20, 1);
        Due.houses(y, 20);
        sow(y, 5, -1, 0);
    }

    private static void sowYears() {
        Due.sentence("sow: n 0 .. 20");
        DunesWalked x = dune("walks 1;grows 0-99*clover;needs 1;", 0, 1);
        Due.houses(x, 20, 21);
        sow(x, 0, -1, 0);
        sow(x, 19, -1, 0);
        sow(x, 20, 1, 0);
        DunesWalked y = dune(CLOVER_ENDS, 20, 1);
        Due.houses(y, 20);
        sow(y, 0, -1, 0);
        sow(y, 1, 20, 0);
        DunesWalked z = dune(STANDS, 20, 1);
        Due.houses(z, 20);
        sow(z, 20, -1, 20);
    }

    private static void sowRefuses() {
        Due.sentence("sow: BAD");
        DunesWalked x = dune(CLOVER_ENDS, 20, 1);
        Due.houses(x, 20);
        for (int n : new int[] {-1, 21, 40, MIN, MAX}) {
            sow(x, n, -2, -2);
        }
        for (int what : new int[] {-1, 2, MIN, MAX}) {
            Due.is("sow(5, " + what + ")", x.sow(5, what), -2);
            Due.is("sow(5, " + what + ") of nothing", new DunesWalked().sow(5, what), -2);
        }
    }

    private static void move(DunesWalked x, int n, int yards, int together) {
        Due.is("move(" + n + ", 0)", x.move(n, 0), yards);
        Due.is("move(" + n + ", 1)", x.move(n, 1), together);
    }

    private static void moveEveryYard() {
        Due.sentence("move: 100 times a YARD with a HOUSE, and one without");
        for (int from = 0; from < 40; from++) {
            DunesWalked x = dune(STANDS, from, 1);
            Due.houses(x, from);
            move(x, 5, 100 * from + (from == 0 ? 1 : 0), 0);
            Due.is("HOUSES behind it", x.parish(0), 1L << from);
        }
        for (int to = 1; to < 40; to++) {
            DunesWalked x = dune(STANDS, 0, 1);
            for (int y = 0; y < 40; y++) {
                x.yard(y, 0, y == to ? 0 : 1);
            }
            move(x, 5, to, 0);
        }
    }

    private static void moveOfLikeOnesTheFirst() {
        Due.sentence("move: of like ones the first");
        DunesWalked x = dune(STANDS, 20, 9);
        Due.houses(x, 15, 18);
        move(x, 5, 1500, 5);
        Due.houses(x, 0, 1, 12);
        move(x, 5, 1202, 10);
        // the least, not the first that is less: yard 5 is under sand for a year, 20 for all
        DunesWalked y = dune("walks (at<9)*3;grows 0;needs 0;", 2, 1);
        Due.dune(y, 5, 0, 20, 1, 50);
        Due.houses(y, 5, 20);
        move(y, 5, 2000, 1);
        // the least of those that it may be moved to: 2 is under sand behind no year, 5 is behind one
        DunesWalked z = dune("walks (at<9)*3;grows 0;needs 0;", 2, 1);
        for (int i = 0; i < 40; i++) {
            z.yard(i, 0, i == 5 || i == 8 ? 0 : 1);
        }
        move(z, 2, -1, 0);
        Due.dune(z, 5, 0, 20, 1, 50);
        move(z, 2, 2005, 1);
    }

    private static void moveWithAHouseToOneWithout() {
        Due.sentence("move: with a HOUSE, and one without");
        DunesWalked x = dune(STANDS, 20, 1);
        Due.houses(x, 20, 0, 1, 2);
        move(x, 5, 2003, 0);
        DunesWalked y = dune(STANDS, 39, 9);
        Due.houses(y, 39);
        for (int i = 0; i < 31; i++) {
            y.yard(i, 0, 1);
        }
        // all that is free is under sand: nothing is less
        move(y, 5, -1, 5);
        y.yard(30, 0, 0);
        move(y, 5, 3930, 0);
    }

    private static void moveNone() {
        Due.sentence("move: if less than so (what 0; -1: none), that (1; as so)");
        move(new DunesWalked(), 20, -1, 0);
        DunesWalked none = dune(STANDS, 20, 1);
        move(none, 20, -1, 0);
        Due.houses(none, 19, 21);
        move(none, 20, -1, 0);
        for (int y = 0; y < 40; y++) {
            none.yard(y, 0, 1);
        }
        move(none, 20, -1, 20);
    }

    private static void moveYears() {
        Due.sentence("move: n 0 .. 20, as in sow");
        DunesWalked x = dune("walks 1;grows 0;needs 0;", 0, 1);
        Due.houses(x, 20);
        move(x, 0, -1, 0);
        move(x, 19, -1, 0);
        move(x, 20, 2000, 0);
        DunesWalked y = dune(STANDS, 20, 1);
        Due.houses(y, 20);
        move(y, 0, -1, 0);
        move(y, 1, 2000, 0);
    }

    private static void moveRefuses() {
        Due.sentence("move: BAD");
        DunesWalked x = dune(STANDS, 20, 1);
        Due.houses(x, 20);
        for (int n : new int[] {-1, 21, 40, 41, MIN, MAX}) {
            move(x, n, -2, -2);
        }
        for (int what : new int[] {-1, 2, MIN, MAX}) {
            Due.is("move(5, " + what + ")", x.move(5, what), -2);
            Due.is("move(5, " + what + ") of nothing", new DunesWalked().move(5, what), -2);
        }
    }

    private static void hold(DunesWalked x, int n, int dune, int together) {
        Due.is("hold(" + n + ", 0)", x.hold(n, 0), dune);
        Due.is("hold(" + n + ", 1)", x.hold(n, 1), together);
    }

    private static void holdEveryDune() {
        Due.sentence("hold: the dune without which that is least");
        for (int d = 0; d < 6; d++) {
            DunesWalked x = six(STANDS);
            Due.houses(x, 2 + 5 * d);
            hold(x, 5, d, 0);
            Due.is("count(1) behind it", x.count(1), 6);
            // also one that will be GONE by then
            DunesWalked y = six("walks 0;grows 0;needs 99*(year=3);");
            Due.houses(y, 2 + 5 * d);
            hold(y, 5, d, 0);
        }
    }

    private static void holdOfLikeOnesTheFirst() {
        Due.sentence("hold: of like ones the first");
        DunesWalked x = six(STANDS);
        Due.houses(x, 7, 12, 17);
        hold(x, 5, 1, 10);
        // the least, not the first that is less
        x.put(3, 1, 2);
        Due.houses(x, 16);
        hold(x, 5, 3, 10);
    }

    private static void holdNone() {
        Due.sentence("hold: if less than so (what 0; -1: none), that (1; as so)");
        hold(new DunesWalked(), 40, -1, 0);
        DunesWalked x = six(STANDS);
        Due.houses(x, 3);
        hold(x, 40, -1, 0);
        // without either the other lies there
        DunesWalked y = dune(STANDS, 10, 1);
        Due.dune(y, 0, 0, 10, 1, 50);
        Due.houses(y, 10);
        hold(y, 4, -1, 4);
        // one that is GONE is none to be without
        DunesWalked z = dune("walks 0;grows 0;needs 99*(at=10);", 10, 1);
        Due.dune(z, 0, 0, 20, 1, 50);
        Due.is("year()", z.year(), 1);
        Due.houses(z, 10, 20);
        hold(z, 4, 1, 0);
    }

    private static void holdYears() {
        Due.sentence("hold: n 0 .. 40");
        DunesWalked x = dune("walks 5*(year=39);grows 0;needs 0;", 10, 1);
        Due.houses(x, 15);
        hold(x, 0, -1, 0);
        hold(x, 39, -1, 0);
        hold(x, 40, 0, 0);
        DunesWalked y = dune(STANDS, 10, 1);
        Due.dune(y, 0, 0, 20, 1, 50);
        Due.houses(y, 10, 20);
        hold(y, 0, -1, 0);
        hold(y, 1, 0, 1);
        hold(y, 40, 0, 40);
    }

    private static void holdRefuses() {
        Due.sentence("hold: BAD");
        DunesWalked x = dune(STANDS, 10, 1);
        Due.houses(x, 10);
        for (int n : new int[] {-1, 41, MIN, MAX}) {
            hold(x, n, -2, -2);
        }
        for (int what : new int[] {-1, 2, MIN, MAX}) {
            Due.is("hold(5, " + what + ")", x.hold(5, what), -2);
            Due.is("hold(5, " + what + ") of nothing", new DunesWalked().hold(5, what), -2);
        }
    }

    private static void share(DunesWalked x, int n, long above, long below) {
        Due.is("share(" + n + ", 0)", x.share(n, 0), above);
        Due.is("share(" + n + ", 1)", x.share(n, 1), below);
    }

    private static void shareLowestTerms() {
        Due.sentence("share: part 0 above, 1 below the line, in lowest terms");
        for (int buried = 0; buried <= 9; buried++) {
            for (int free = 0; free <= 12; free++) {
                DunesWalked x = dune(STANDS, 8, 9);
                for (int i = 0; i < buried; i++) {
                    x.yard(i, 0, 1);
                }
                for (int i = 0; i < free; i++) {
                    x.yard(20 + i, 0, 1);
                }
                int all = buried + free;
                int common = Due.common(buried, all);
                share(x, 3, all == 0 ? NO : buried / common, all == 0 ? NO : all / common);
            }
        }
        DunesWalked all = dune(STANDS, 8, 9);
        for (int y = 0; y < 40; y++) {
            all.yard(y, 0, 1);
        }
        share(all, 0, 9, 40);
        all.put(0, 1, 8);
        share(all, 0, 1, 5);
    }

    private static void shareYears() {
        Due.sentence("share: behind n YEARS (0 .. 40)");
        DunesWalked x = dune("walks 5*(year=39);grows 0;needs 0;", 10, 1);
        Due.houses(x, 15, 20);
        share(x, 0, 0, 1);
        share(x, 39, 0, 1);
        share(x, 40, 1, 2);
        DunesWalked y = dune("walks 5;grows 0;needs 0;", 10, 1);
        Due.houses(y, 10, 20);
        share(y, 0, 1, 2);
        share(y, 1, 0, 1);
        share(y, 2, 1, 2);
    }

    private static void shareRefuses() {
        Due.sentence("share: NO: none such, no HOUSES");
        DunesWalked x = dune(STANDS, 10, 1);
        share(x, 0, NO, NO);
        share(x, 40, NO, NO);
        Due.houses(x, 10);
        share(x, 0, 1, 1);
        share(x, 40, 1, 1);
        for (int n : new int[] {-1, 41, MIN, MAX}) {
            share(x, n, NO, NO);
        }
        for (int part : new int[] {-1, 2, MIN, MAX}) {
            Due.is("share(0, " + part + ")", x.share(0, part), NO);
        }
        x.yard(10, 0, 0);
        share(x, 0, NO, NO);
    }
}
