import java.util.Arrays;

/** Promises 32 to 36: each sentence of a bound or a refusal, by the last that is taken and the first that isn't. */
public final class HostEdgesTest {
    private static final int MIN = Integer.MIN_VALUE, MAX = Integer.MAX_VALUE;
    private static final String STANDS = "walks 0;grows 0;needs 0;";

    public static void main(String[] args) {
        missingAtFirst();
        sheetOfEachSort();
        sheetAllZero();
        sheetMissing();
        sheetRefusesSheets();
        sheetRefusesSorts();
        sheetFortyAtMost();
        sheetBelowZero();
        cellPlaces();
        cellCutToItsSort();
        cellRefusesSheets();
        cellOfAMissingOne();
        cellOutside();
        copyNumbers();
        copyToItsOwn();
        copyOfNone();
        copyRefusesSheets();
        copyOfMissingOnes();
        copyOfUnlikeSorts();
        copyOutside();
        copyOfNBelowZero();
        dunesByTwoByTwo();
        dunesByNoneAndSix();
        dunesByLeavesOut();
        dunesByFull();
        dunesByRefuses();
        dunesByOfAMissingOne();
        dunesByOfAnotherSort();
        dunesByOutside();
        dunesByWhatStoodAhead();
        takenOfAKind();
        takenHigh();
        takenGone();
        takenRefusesKinds();
        takenOutside();
        takenOfNoDune();
        takenOfAnother();
        Due.end();
    }

    /** A sheet of a sort with these numbers. */
    private static DunesWalked with(int s, int sort, int... numbers) {
        DunesWalked x = new DunesWalked();
        put(x, s, sort, numbers);
        return x;
    }

    private static void put(DunesWalked x, int s, int sort, int... numbers) {
        Due.is("sheet", x.sheet(s, sort, numbers.length), 1);
        for (int i = 0; i < numbers.length; i++) {
            Due.is("cell", x.cell(s, i, numbers[i]), 1);
        }
    }

    private static void holds(DunesWalked x, int s, int... numbers) {
        Due.is("how many it has", Seen.sizeOf(x, s), numbers.length);
        for (int i = 0; i < numbers.length; i++) {
            Due.is("number " + i + " of SHEET " + s, Seen.number(x, s, i), numbers[i]);
        }
    }

    private static void missingAtFirst() {
        Due.sentence("SHEETS 0 .. 3 are missing (as all are at first)");
        DunesWalked x = new DunesWalked();
        for (int s = 0; s < 4; s++) {
            Due.is("cell(" + s + ", 0, 1)", x.cell(s, 0, 1), -11);
            Due.is("whose(" + s + ")", x.whose(s), -11);
        }
    }

    private static void sheetOfEachSort() {
        Due.sentence("sheet: a SHEET becomes a row of n of a sort: 1");
        for (int s = 0; s < 4; s++) {
            for (int sort = 0; sort < 3; sort++) {
                for (int n : new int[] {0, 1, 20, 40}) {
                    DunesWalked x = new DunesWalked();
                    Due.is("sheet(" + s + ", " + sort + ", " + n + ")", x.sheet(s, sort, n), 1);
                    Due.is("its sort", Seen.sortOf(x, s), sort);
                    Due.is("how many it has", Seen.sizeOf(x, s), n);
                    Due.is("the next is missing", Seen.sortOf(x, (s + 1) % 4), -1);
                }
            }
        }
    }

    private static void sheetAllZero() {
        Due.sentence("sheet: all 0");
        for (int sort = 0; sort < 3; sort++) {
            DunesWalked x = with(1, 2, 7, 8, 9, 10);
            x.sheet(1, sort, 4);
            holds(x, 1, 0, 0, 0, 0);
            // also where a shorter one was meanwhile
            DunesWalked y = with(1, 2, 7, 8, 9, 10);
            y.sheet(1, sort, 2);
            y.sheet(1, sort, 4);
            holds(y, 1, 0, 0, 0, 0);
            DunesWalked z = with(1, 2, 7, 8, 9, 10);
            z.sheet(1, -1, 2);
            z.sheet(1, sort, 3);
            holds(z, 1, 0, 0, 0);
        }
        DunesWalked w = new DunesWalked();
        w.sheet(0, 2, 40);
        for (int i = 0; i < 40; i++) {
            w.cell(0, i, 9);
        }
        w.sheet(0, 2, 40);
        Due.is("the last of forty", Seen.number(w, 0, 39), 0);
    }

    private static void sheetMissing() {
        Due.sentence("sheet: or missing (sort -1: n does not matter)");
        for (int n : new int[] {MIN, -1, 0, 5, 40, 41, MAX}) {
            DunesWalked x = with(2, 1, 3, 4);
            Due.is("sheet(2, -1, " + n + ")", x.sheet(2, -1, n), 1);
            Due.is("cell", x.cell(2, 0, 1), -11);
            Due.is("sheet(2, -1, " + n + ") again", x.sheet(2, -1, n), 1);
        }
    }

    private static void sheetRefusesSheets() {
        Due.sentence("sheet: BAD: SHEET");
        for (int s : new int[] {-1, 4, MIN, MAX}) {
            DunesWalked x = new DunesWalked();
            Due.is("sheet(" + s + ", 0, 1)", x.sheet(s, 0, 1), -2);
            Due.is("sheet(" + s + ", -1, 1)", x.sheet(s, -1, 1), -2);
            Due.is("sheet(" + s + ", 0, -1)", x.sheet(s, 0, -1), -2);
        }
    }

    private static void sheetRefusesSorts() {
        Due.sentence("sheet: BAD: sort");
        for (int sort : new int[] {-2, 3, MIN, MAX}) {
            DunesWalked x = with(0, 1, 5, 6);
            for (int n : new int[] {1, -1, 41}) {
                Due.is("sheet(0, " + sort + ", " + n + ")", x.sheet(0, sort, n), -2);
            }
            holds(x, 0, 5, 6);
        }
    }

    private static void sheetFortyAtMost() {
        Due.sentence("sheet: BAD: n above 40");
        for (int sort = 0; sort < 3; sort++) {
            Due.is("sheet of 40", new DunesWalked().sheet(0, sort, 40), 1);
            for (int n : new int[] {41, 42, MAX}) {
                DunesWalked x = with(0, 1, 5, 6);
                Due.is("sheet of " + n, x.sheet(0, sort, n), -2);
                holds(x, 0, 5, 6);
            }
        }
    }

    private static void sheetBelowZero() {
        Due.sentence("sheet: -14: a size below 0");
        for (int sort = 0; sort < 3; sort++) {
            Due.is("sheet of 0", new DunesWalked().sheet(0, sort, 0), 1);
            for (int n : new int[] {-1, -2, MIN}) {
                DunesWalked x = with(0, 1, 5, 6);
                Due.is("sheet of " + n, x.sheet(0, sort, n), -14);
                holds(x, 0, 5, 6);
            }
        }
    }

    private static void cellPlaces() {
        Due.sentence("cell: number i of a SHEET becomes v: 1");
        for (int s = 0; s < 4; s++) {
            DunesWalked x = new DunesWalked();
            x.sheet(s, 2, 4);
            Due.is("cell of the first", x.cell(s, 0, 31), 1);
            Due.is("cell of the last", x.cell(s, 3, 32), 1);
            holds(x, s, 31, 0, 0, 32);
        }
        DunesWalked y = new DunesWalked();
        y.sheet(0, 0, 40);
        Due.is("cell of the fortieth", y.cell(0, 39, 33), 1);
        Due.is("the fortieth", Seen.number(y, 0, 39), 33);
        Due.is("the one ahead of it", Seen.number(y, 0, 38), 0);
    }

    private static void cellCutToItsSort() {
        Due.sentence("cell: (of bytes, shorts its lowest 8, 16 bits)");
        // -2 stands for a number that is none of -1 .. 39
        int[][] due = {
            {0, 39, 39}, {0, 127, -2}, {0, 128, -2}, {0, 255, -1}, {0, 256, 0}, {0, 256 + 39, 39}, {0, -1, -1},
            {0, -256, 0}, {0, -217, 39}, {0, 65535, -1}, {0, MAX, -1}, {0, MIN, 0},
            {1, 255, -2}, {1, 256, -2}, {1, 32767, -2}, {1, 32768, -2}, {1, 65535, -1}, {1, 65536, 0},
            {1, 65536 + 39, 39}, {1, -1, -1}, {1, MAX, -1}, {1, MIN, 0},
            {2, 255, -2}, {2, 65535, -2}, {2, 65536, -2}, {2, -1, -1}, {2, 39, 39}, {2, MAX, -2}, {2, MIN, -2}};
        for (int[] d : due) {
            DunesWalked x = with(0, d[0], 1, d[1]);
            Due.is("sort " + d[0] + " of " + d[1], Seen.number(x, 0, 1), d[2]);
            Due.is("the number ahead", Seen.number(x, 0, 0), 1);
        }
        // 127 and 32767 are what they are, 128 and 32768 are below 0: told by dunes
        Due.is("bytes of 59", with(0, 0, 59, 127).dunesBy(0, 0, 0, 1), 0);
        Due.is("shorts of 32050", with(0, 1, 59, 32050).dunesBy(0, 1, 0, 1), 1);
        Due.is("shorts of 65536 + 32050", with(0, 1, 59, 65536 + 32050).dunesBy(0, 1, 0, 1), 1);
        Due.is("shorts of 33050", with(0, 1, 59, 33050).dunesBy(0, 1, 0, 1), 0);
        Due.is("ints of 399099", with(0, 2, 59, 399099).dunesBy(0, 2, 0, 1), 1);
    }

    private static void cellRefusesSheets() {
        Due.sentence("cell: BAD: SHEET");
        for (int s : new int[] {-1, 4, MIN, MAX}) {
            Due.is("cell(" + s + ", 0, 1)", with(0, 0, 5).cell(s, 0, 1), -2);
            Due.is("cell(" + s + ", -1, 1)", with(0, 0, 5).cell(s, -1, 1), -2);
        }
    }

    private static void cellOfAMissingOne() {
        Due.sentence("cell: -11");
        for (int i : new int[] {-1, 0, 39, 40}) {
            Due.is("cell(1, " + i + ", 1)", with(0, 0, 5).cell(1, i, 1), -11);
        }
    }

    private static void cellOutside() {
        Due.sentence("cell: -12: a place outside");
        for (int sort = 0; sort < 3; sort++) {
            for (int i : new int[] {-1, 2, 3, 39, 40, MIN, MAX}) {
                DunesWalked x = with(0, sort, 5, 6);
                Due.is("cell(0, " + i + ", 1)", x.cell(0, i, 1), -12);
                holds(x, 0, 5, 6);
            }
            DunesWalked empty = with(0, sort);
            Due.is("cell(0, 0, 1) of an empty one", empty.cell(0, 0, 1), -12);
            DunesWalked forty = new DunesWalked();
            forty.sheet(0, sort, 40);
            Due.is("cell(0, 40, 1) of forty", forty.cell(0, 40, 1), -12);
        }
    }

    private static DunesWalked two(int sort) {
        DunesWalked x = with(0, sort, 1, 2, 3, 4, 5);
        put(x, 1, sort, 11, 12, 13);
        return x;
    }

    private static void copyNumbers() {
        Due.sentence("copy: n numbers of a SHEET, from i on, come to another one's place j: n");
        for (int sort = 0; sort < 3; sort++) {
            DunesWalked x = two(sort);
            Due.is("copy of all that it takes", x.copy(0, 2, 1, 0, 3), 3);
            holds(x, 1, 3, 4, 5);
            DunesWalked y = two(sort);
            Due.is("copy of one, the last to the last", y.copy(0, 4, 1, 2, 1), 1);
            holds(y, 1, 11, 12, 5);
            DunesWalked z = two(sort);
            Due.is("copy of all", z.copy(1, 0, 0, 2, 3), 3);
            holds(z, 0, 1, 2, 11, 12, 13);
            holds(two(sort), 0, 1, 2, 3, 4, 5);
        }
        DunesWalked forty = new DunesWalked();
        forty.sheet(0, 2, 40);
        forty.sheet(3, 2, 40);
        forty.cell(0, 0, 6);
        forty.cell(0, 39, 7);
        Due.is("copy of forty", forty.copy(0, 0, 3, 0, 40), 40);
        Due.is("the first", Seen.number(forty, 3, 0), 6);
        Due.is("the last", Seen.number(forty, 3, 39), 7);
    }

    private static void copyToItsOwn() {
        Due.sentence("copy: (or its own) place j (as they were)");
        DunesWalked on = two(2);
        Due.is("copy on by one", on.copy(0, 0, 0, 1, 4), 4);
        holds(on, 0, 1, 1, 2, 3, 4);
        DunesWalked back = two(2);
        Due.is("copy back by one", back.copy(0, 1, 0, 0, 4), 4);
        holds(back, 0, 2, 3, 4, 5, 5);
        DunesWalked far = two(2);
        Due.is("copy on by two", far.copy(0, 0, 0, 2, 3), 3);
        holds(far, 0, 1, 2, 1, 2, 3);
        DunesWalked there = two(2);
        Due.is("copy to where they are", there.copy(0, 0, 0, 0, 5), 5);
        holds(there, 0, 1, 2, 3, 4, 5);
    }

    private static void copyOfNone() {
        Due.sentence("copy: of none: 0");
        int[][] places = {{0, 0}, {5, 0}, {0, 3}, {5, 3}};
        for (int[] p : places) {
            DunesWalked x = two(0);
            Due.is("copy(0, " + p[0] + ", 1, " + p[1] + ", 0)", x.copy(0, p[0], 1, p[1], 0), 0);
            holds(x, 1, 11, 12, 13);
        }
        DunesWalked empty = with(0, 0);
        Due.is("copy of none of an empty one", empty.copy(0, 0, 0, 0, 0), 0);
        Due.is("copy of one of an empty one", empty.copy(0, 0, 0, 0, 1), -12);
    }

    private static void copyRefusesSheets() {
        Due.sentence("copy: BAD: SHEETS");
        for (int s : new int[] {-1, 4, MIN, MAX}) {
            Due.is("copy from " + s, two(0).copy(s, 0, 1, 0, 1), -2);
            Due.is("copy to " + s, two(0).copy(0, 0, s, 0, 1), -2);
            // ahead of a missing one, and of places
            Due.is("copy from " + s + " to a missing one", two(0).copy(s, -1, 2, -1, -1), -2);
            Due.is("copy from a missing one to " + s, two(0).copy(2, -1, s, -1, -1), -2);
        }
    }

    private static void copyOfMissingOnes() {
        Due.sentence("copy: -11");
        Due.is("copy from a missing one", two(0).copy(2, 0, 1, 0, 1), -11);
        Due.is("copy to a missing one", two(0).copy(0, 0, 2, 0, 1), -11);
        Due.is("copy of a missing one to itself", two(0).copy(2, 0, 2, 0, 0), -11);
        Due.is("copy to a missing one, outside", two(0).copy(0, -1, 2, -1, -1), -11);
    }

    private static void copyOfUnlikeSorts() {
        Due.sentence("copy: -13: unlike sorts");
        for (int sort = 0; sort < 3; sort++) {
            for (int other = 0; other < 3; other++) {
                DunesWalked x = with(0, sort, 5);
                put(x, 1, other, 6);
                Due.is("copy of sort " + sort + " to " + other, x.copy(0, 0, 1, 0, 1), sort == other ? 1 : -13);
                Due.is("that, outside", x.copy(0, 0, 1, 0, 2), sort == other ? -12 : -13);
                Due.is("that, n below 0", x.copy(0, 0, 1, 0, -1), sort == other ? -12 : -13);
                Due.is("the other one's number", Seen.number(x, 1, 0), sort == other ? 5 : 6);
            }
        }
    }

    private static void copyOutside() {
        Due.sentence("copy: -12: a place outside");
        int[][] outside = {{-1, 0, 1}, {0, -1, 1}, {5, 0, 1}, {0, 3, 1}, {0, 0, 4}, {3, 0, 3}, {0, 1, 3}, {6, 0, 0},
            {0, 4, 0}, {-1, 0, 0}, {0, -1, 0}, {MAX, 0, 1}, {0, MAX, 1}, {1, 1, MAX}, {MAX, MAX, MAX}, {MIN, 0, 1},
            {0, MIN, 1}, {MIN, MIN, 0}, {MAX, 0, 0}};
        for (int[] o : outside) {
            DunesWalked x = two(1);
            Due.is("copy(0, " + o[0] + ", 1, " + o[1] + ", " + o[2] + ")", x.copy(0, o[0], 1, o[1], o[2]), -12);
            holds(x, 1, 11, 12, 13);
        }
    }

    private static void copyOfNBelowZero() {
        Due.sentence("copy: -12 (n below 0, too)");
        for (int n : new int[] {-1, -2, MIN}) {
            DunesWalked x = two(1);
            Due.is("copy of " + n, x.copy(0, 2, 1, 2, n), -12);
            Due.is("copy of " + n + " from the end", x.copy(0, 5, 1, 3, n), -12);
            holds(x, 1, 11, 12, 13);
        }
    }

    private static void dunesByTwoByTwo() {
        Due.sentence("dunesBy: from a place on, two by two (as of dune())");
        for (int sort = 1; sort < 3; sort++) {
            DunesWalked x = with(3, sort, 99, 34, 31050, 59, 29099, 7);
            Due.is("dunesBy", x.dunesBy(3, sort, 1, 2), 2);
            int[][] due = {{3, 1, 50, 3, 4}, {2, 9, 99, 5, 9}};
            for (int d = 0; d < 2; d++) {
                for (int what = 0; what < 5; what++) {
                    Due.is("told(" + d + ", " + what + ")", x.told(d, what), due[d][what]);
                }
            }
            Due.is("count(0)", x.count(0), 2);
            DunesWalked end = with(3, sort, 99, 34, 31050);
            Due.is("dunesBy to the end", end.dunesBy(3, sort, 1, 1), 1);
        }
        Due.is("dunesBy of bytes", with(0, 0, 5, 100).dunesBy(0, 0, 0, 1), 0);
    }

    private static DunesWalked sixOnASheet() {
        return with(0, 2, 0, 1009, 0, 61009, 0, 121009, 0, 181009, 0, 241009, 0, 301009, 0, 361009, 0, 371009);
    }

    private static void dunesByNoneAndSix() {
        Due.sentence("dunesBy: n of them (0 .. 6): how many came");
        for (int n = 0; n <= 6; n++) {
            DunesWalked x = sixOnASheet();
            Due.is("dunesBy of " + n, x.dunesBy(0, 2, 0, n), n);
            Due.is("count(0)", x.count(0), n);
        }
        Due.is("dunesBy of 7", sixOnASheet().dunesBy(0, 2, 0, 7), -2);
        Due.is("dunesBy of -1", sixOnASheet().dunesBy(0, 2, 0, -1), -2);
        Due.is("dunesBy of none of an empty one", with(0, 2).dunesBy(0, 2, 0, 0), 0);
    }

    private static void dunesByLeavesOut() {
        Due.sentence("dunesBy: (others are left out)");
        int[][] others = {{-1, 1009}, {60, 1009}, {0, 9}, {0, 1100}, {0, 401009}, {0, -1}, {MAX, MIN}};
        for (int[] o : others) {
            DunesWalked x = with(0, 2, 0, 1009, o[0], o[1], 0, 61009);
            Due.is("dunesBy", x.dunesBy(0, 2, 0, 3), 2);
            Due.is("count(0)", x.count(0), 2);
            Due.is("FRONT of the one behind", x.told(1, 0), 6);
        }
    }

    private static void dunesByFull() {
        Due.sentence("dunesBy: those for which there is no room are left out");
        DunesWalked x = sixOnASheet();
        Due.is("dune", x.dune(0, 391009), 0);
        Due.is("dune", x.dune(0, 381009), 1);
        Due.is("dunesBy of 6", x.dunesBy(0, 2, 0, 6), 4);
        Due.is("dunesBy of 6 again", x.dunesBy(0, 2, 0, 6), 0);
        Due.is("count(0)", x.count(0), 6);
        Due.is("FRONT of the last", x.told(5, 0), 18);
        Due.is("dunesBy to beyond the end", x.dunesBy(0, 2, 6, 6), -12);
    }

    private static void dunesByRefuses() {
        Due.sentence("dunesBy: BAD: SHEET, sort, n");
        for (int bad : new int[] {-1, 4, MIN, MAX}) {
            Due.is("dunesBy of SHEET " + bad, sixOnASheet().dunesBy(bad, 2, 0, 1), -2);
        }
        for (int bad : new int[] {-2, -1, 3, MIN, MAX}) {
            Due.is("dunesBy of sort " + bad, sixOnASheet().dunesBy(0, bad, 0, 1), -2);
            Due.is("dunesBy of sort " + bad + " of a missing one", sixOnASheet().dunesBy(1, bad, 0, 1), -2);
        }
        for (int bad : new int[] {-1, 7, MIN, MAX}) {
            DunesWalked x = sixOnASheet();
            Due.is("dunesBy of n " + bad, x.dunesBy(0, 2, 0, bad), -2);
            Due.is("dunesBy of n " + bad + " of a missing one", x.dunesBy(1, 2, -1, bad), -2);
            Due.is("dunesBy of n " + bad + " of another sort", x.dunesBy(0, 1, -1, bad), -2);
            Due.is("count(0)", x.count(0), 0);
        }
    }

    private static void dunesByOfAMissingOne() {
        Due.sentence("dunesBy: -11");
        for (int sort = 0; sort < 3; sort++) {
            Due.is("dunesBy of a missing one", sixOnASheet().dunesBy(1, sort, 0, 1), -11);
            Due.is("dunesBy of a missing one, outside", sixOnASheet().dunesBy(1, sort, -1, 1), -11);
            Due.is("dunesBy of a missing one, none", sixOnASheet().dunesBy(1, sort, 0, 0), -11);
        }
    }

    private static void dunesByOfAnotherSort() {
        Due.sentence("dunesBy: -13");
        for (int is = 0; is < 3; is++) {
            for (int sort = 0; sort < 3; sort++) {
                DunesWalked x = with(0, is, 0, 0, 0, 0);
                Due.is("dunesBy of sort " + is + " by " + sort, x.dunesBy(0, sort, 0, 2), is == sort ? 0 : -13);
                Due.is("that, outside", x.dunesBy(0, sort, -1, 2), is == sort ? -12 : -13);
                Due.is("that, none", x.dunesBy(0, sort, 0, 0), is == sort ? 0 : -13);
            }
        }
    }

    private static void dunesByOutside() {
        Due.sentence("dunesBy: -12: a place outside");
        for (int from : new int[] {-2, -1, 5, 6, 7, 40, MIN, MIN + 1, MAX - 1, MAX}) {
            DunesWalked x = with(0, 2, 0, 1009, 0, 61009, 0, 121009);
            Due.is("dunesBy from " + from, x.dunesBy(0, 2, from, 1), -12);
            Due.is("dunesBy of six from " + from, x.dunesBy(0, 2, from, 6), -12);
            Due.is("count(0)", x.count(0), 0);
        }
        Due.is("dunesBy of the last two", with(0, 2, 9, 9, 0, 1009).dunesBy(0, 2, 2, 1), 1);
        Due.is("dunesBy of one of an empty one", with(0, 2).dunesBy(0, 2, 0, 1), -12);
        DunesWalked forty = new DunesWalked();
        forty.sheet(0, 2, 40);
        forty.cell(0, 39, 1009);
        Due.is("dunesBy of the last two of forty", forty.dunesBy(0, 2, 38, 1), 1);
        Due.is("dunesBy from the last of forty", forty.dunesBy(0, 2, 39, 1), -12);
    }

    private static void dunesByWhatStoodAhead() {
        Due.sentence("dunesBy: -12: what stood ahead came");
        for (int ahead = 0; ahead < 6; ahead++) {
            int[] numbers = new int[2 * ahead + 1];
            for (int k = 0; k < ahead; k++) {
                numbers[2 * k + 1] = 10000 * 6 * k + 1009;
            }
            DunesWalked half = with(0, 2, numbers);
            Due.is("dunesBy to a half", half.dunesBy(0, 2, 0, 6), -12);
            Due.is("count(0)", half.count(0), ahead);
            DunesWalked x = with(0, 2, Arrays.copyOf(numbers, 2 * ahead));
            Due.is("dunesBy to the end and on", x.dunesBy(0, 2, 0, ahead + 1), -12);
            Due.is("count(0)", x.count(0), ahead);
            Due.is("SAND", Long.bitCount(x.parish(2)), ahead);
        }
    }

    private static final int[] ABOVE = {0, 0, 0, 1, 2, 0};

    private static boolean isOne(int own, int kind) {
        return kind == 0 || own == kind || own != 0 && isOne(ABOVE[own], kind);
    }

    private static void takenOfAKind() {
        Due.sentence("taken: 0 .. 5 DUNES, taken for a dune of that KIND (also of one that is one): the number; -13");
        for (int d = 0; d < 6; d++) {
            for (int own = 0; own < 6; own++) {
                DunesWalked x = new DunesWalked();
                for (int ahead = 0; ahead < d; ahead++) {
                    x.dune(10 * ((own + 1) % 6), 1009);
                }
                x.dune(10 * own + 9, 1009);
                for (int kind = 0; kind < 6; kind++) {
                    int due = isOne(own, kind) ? d : -13;
                    Due.is("taken(" + d + ", " + kind + ") of KIND " + own, x.taken(d, kind), due);
                }
            }
        }
    }

    private static void takenHigh() {
        Due.sentence("taken: 6 .. 11 how HIGH they are; 6 HIGH");
        DunesWalked x = new DunesWalked();
        int[] high = {0, 1, 50, 98, 99, 7};
        for (int d = 0; d < 6; d++) {
            Due.is("taken ahead of it", x.taken(6 + d, 6), -11);
            Due.is("dune", Due.dune(x, d, 0, 6 * d, 1, high[d]), d);
            Due.is("taken(" + (6 + d) + ", 6)", x.taken(6 + d, 6), high[d]);
            x.put(d, 2, 99 - high[d]);
            Due.is("taken(" + (6 + d) + ", 6)", x.taken(6 + d, 6), 99 - high[d]);
        }
    }

    private static void takenGone() {
        Due.sentence("taken: (GONE, too); (GONE: as last)");
        DunesWalked x = Due.one("walks 0;grows 3*(at<30)-9*(at=39);needs 10*(at=39);", 5, 0, 10, 1, 50);
        Due.dune(x, 3, 0, 10, 1, 40);
        Due.dune(x, 4, 0, 38, 1, 9);
        x.put(2, 0, 39);
        Due.is("year(): one is taken up, one is too low", x.year(), 2 + 4);
        Due.is("how HIGH the one was", x.taken(7, 6), 40);
        Due.is("how HIGH the other was, behind its growth", x.taken(8, 6), 0);
        Due.is("taken(1, 3)", x.taken(1, 3), 1);
        Due.is("taken(1, 1)", x.taken(1, 1), 1);
        Due.is("taken(1, 2)", x.taken(1, 2), -13);
        Due.is("taken(2, 4)", x.taken(2, 4), 2);
        Due.is("taken(2, 6)", x.taken(2, 6), -13);
        x.year();
        Due.is("how HIGH the one was, a year later", x.taken(7, 6), 40);
        Due.is("how HIGH that is that took it up", x.taken(6, 6), 70);
    }

    private static void takenRefusesKinds() {
        Due.sentence("taken: BAD: kind");
        DunesWalked x = Due.one(STANDS, 0, 0, 10, 1, 50);
        for (int kind : new int[] {-1, 7, MIN, MAX}) {
            for (int i : new int[] {-1, 0, 1, 6, 7, 11, 12}) {
                Due.is("taken(" + i + ", " + kind + ")", x.taken(i, kind), -2);
            }
        }
    }

    private static void takenOutside() {
        Due.sentence("taken: -12: i");
        DunesWalked x = sixOnASheet();
        x.dunesBy(0, 2, 0, 6);
        for (int kind = 0; kind < 7; kind++) {
            for (int i : new int[] {-1, 12, MIN, MAX}) {
                Due.is("taken(" + i + ", " + kind + ")", x.taken(i, kind), -12);
                Due.is("taken(" + i + ", " + kind + ") of no dunes", new DunesWalked().taken(i, kind), -12);
            }
        }
        Due.is("taken(0, 0)", x.taken(0, 0), 0);
        Due.is("taken(5, 0)", x.taken(5, 0), 5);
        Due.is("taken(11, 6)", x.taken(11, 6), 9);
    }

    private static void takenOfNoDune() {
        Due.sentence("taken: -11: no such dune (GONE ones are)");
        DunesWalked x = new DunesWalked();
        for (int d = 0; d < 6; d++) {
            for (int i = 0; i < 6; i++) {
                Due.is("taken(" + i + ", 0) of " + d + " dunes", x.taken(i, 0), i < d ? i : -11);
                Due.is("taken(" + (6 + i) + ", 6) of " + d + " dunes", x.taken(6 + i, 6), i < d ? 0 : -11);
            }
            Due.is("dune", x.dune(0, 1000), d);
        }
        DunesWalked y = new DunesWalked();
        for (int kind = 0; kind < 7; kind++) {
            Due.is("taken(0, " + kind + ")", y.taken(0, kind), -11);
            Due.is("taken(6, " + kind + ")", y.taken(6, kind), -11);
        }
        DunesWalked z = Due.one("walks 0;grows 0;needs 99;", 0, 0, 10, 1, 50);
        Due.is("year()", z.year(), 1);
        Due.is("taken(0, 0) of a GONE one", z.taken(0, 0), 0);
        Due.is("taken(6, 6) of a GONE one", z.taken(6, 6), 50);
    }

    private static void takenOfAnother() {
        Due.sentence("taken: -13: a dune taken for HIGH, HIGH taken for a dune");
        DunesWalked x = sixOnASheet();
        x.dunesBy(0, 2, 0, 6);
        for (int d = 0; d < 6; d++) {
            Due.is("taken(" + d + ", 6)", x.taken(d, 6), -13);
            for (int kind = 0; kind < 6; kind++) {
                Due.is("taken(" + (6 + d) + ", " + kind + ")", x.taken(6 + d, kind), -13);
            }
        }
    }
}
