/** Promises 32 to 36: the host. */
public final class HostTest {
    private static final int MIN = Integer.MIN_VALUE, MAX = Integer.MAX_VALUE;

    public static void main(String[] args) {
        sheet();
        cell();
        copy();
        dunesBy();
        taken();
        Due.end();
    }

    /** Number i of a sheet, told by dune 0 whose FRONT it is behind a year; 99 if it is none. Sheet 3 goes by it. */
    private static int at(DunesWalked x, int s, int i) {
        for (int sort = 0; sort < 3; sort++) {
            x.sheet(3, sort, 1);
            if (x.copy(s, i, 3, 0, 1) == 1) {
                break;
            }
        }
        x.put(0, 2, 0);
        if (x.judge(3, 0) == -1) {
            return -1;
        }
        x.put(0, 2, 50);
        int front = x.states(3, 0, 0, 1);
        return front < 0 ? 99 : front;
    }

    private static DunesWalked withStillDune() {
        DunesWalked x = new DunesWalked();
        Due.dune(x, 5, 0, 0, 1, 50);
        return x;
    }

    private static void sheet() {
        DunesWalked x = withStillDune();
        for (int s : new int[] {-1, 4, MIN, MAX}) {
            Due.is("sheet(" + s + ", 0, 1)", x.sheet(s, 0, 1), -2);
            Due.is("sheet(" + s + ", -1, 1)", x.sheet(s, -1, 1), -2);
        }
        for (int sort : new int[] {-2, 3, MIN, MAX}) {
            Due.is("sheet(0, " + sort + ", 1)", x.sheet(0, sort, 1), -2);
            Due.is("sheet(0, " + sort + ", -1)", x.sheet(0, sort, -1), -2);
        }
        for (int n : new int[] {41, MAX}) {
            Due.is("sheet(0, 1, " + n + ")", x.sheet(0, 1, n), -2);
            Due.is("sheet(0, -1, " + n + ")", x.sheet(0, -1, n), 1);
        }
        for (int n : new int[] {-1, MIN}) {
            Due.is("sheet(0, 1, " + n + ")", x.sheet(0, 1, n), -14);
            Due.is("sheet(0, -1, " + n + ")", x.sheet(0, -1, n), 1);
        }
        Due.is("none came", x.whose(0), -11);
        for (int sort = 0; sort < 3; sort++) {
            for (int n : new int[] {0, 1, 40}) {
                Due.is("sheet", x.sheet(sort, sort, n), 1);
                Due.is("the last cell", x.cell(sort, n - 1, 1), n == 0 ? -12 : 1);
                Due.is("no cell more", x.cell(sort, n, 1), -12);
            }
            Due.is("of its sort", x.dunesBy(sort, sort, 0, 0), 0);
            Due.is("of no other sort", x.dunesBy(sort, (sort + 1) % 3, 0, 0), -13);
        }
        // all 0 again, also when the row was written before
        Due.sheet(x, 0, 7, 8, 9);
        x.sheet(0, 2, 3);
        for (int i = 0; i < 3; i++) {
            Due.is("a cell of a new row", at(x, 0, i), 0);
        }
        // a refusal leaves the row
        x.cell(0, 1, 4);
        x.sheet(0, 2, 41);
        x.sheet(0, 2, -1);
        x.sheet(0, 3, 1);
        Due.is("a cell behind refusals", at(x, 0, 1), 4);
        Due.is("missing again", x.sheet(0, -1, 0), 1);
        Due.is("missing again", x.cell(0, 0, 1), -11);
    }

    private static void cell() {
        DunesWalked x = withStillDune();
        for (int s : new int[] {-1, 4, MIN, MAX}) {
            Due.is("cell(" + s + ", 0, 1)", x.cell(s, 0, 1), -2);
        }
        Due.is("cell of a missing one", x.cell(0, -1, 1), -11);
        x.sheet(0, 0, 3);
        for (int i : new int[] {-1, 3, 40, MIN, MAX}) {
            Due.is("cell(0, " + i + ", 1)", x.cell(0, i, 1), -12);
        }
        int[] sorts = {0, 0, 0, 0, 1, 1, 1, 1, 2, 2, 2};
        int[] values = {256 + 7, 255, -1, -256, 65536 + 7, 65535, 256 + 7, 32768 * 2 + 39, -1, 39, 256 + 7};
        int[] due = {7, -1, -1, 0, 7, -1, 99, 39, -1, 39, 99};
        for (int i = 0; i < sorts.length; i++) {
            x.sheet(0, sorts[i], 2);
            Due.is("cell", x.cell(0, 1, values[i]), 1);
            Due.is("sort " + sorts[i] + " of " + values[i], at(x, 0, 1), due[i]);
            Due.is("the other cell", at(x, 0, 0), 0);
        }
        // 128 of bytes and 32768 of shorts are below 0: as numbers of a dune they are bad
        x.sheet(1, 0, 2);
        x.cell(1, 0, 128);
        x.cell(1, 1, 127);
        Due.is("dunesBy of 128 of bytes", x.dunesBy(1, 0, 0, 1), 0);
        x.sheet(1, 1, 2);
        x.cell(1, 0, 59);
        x.cell(1, 1, 32050);
        Due.is("dunesBy of shorts", x.dunesBy(1, 1, 0, 1), 1);
        Due.is("FRONT by shorts", x.told(1, 0), 3);
        x.cell(1, 1, 65536 + 31050);
        Due.is("dunesBy of shorts, cut", x.dunesBy(1, 1, 0, 1), 1);
        Due.is("FRONT by shorts, cut", x.told(2, 0), 3);
        x.cell(1, 1, 41050);
        Due.is("dunesBy of shorts below 0", x.dunesBy(1, 1, 0, 1), 0);
    }

    private static void copy() {
        DunesWalked x = withStillDune();
        Due.sheet(x, 0, 1, 2, 3, 4, 5);
        Due.sheet(x, 1, 11, 12, 13);
        Due.is("copy", x.copy(0, 3, 1, 0, 2), 2);
        row(x, 1, 4, 5, 13);
        row(x, 0, 1, 2, 3, 4, 5);
        // onto its own, as they were, both ways
        Due.is("copy on", x.copy(0, 0, 0, 1, 4), 4);
        row(x, 0, 1, 1, 2, 3, 4);
        Due.is("copy back", x.copy(0, 1, 0, 0, 4), 4);
        row(x, 0, 1, 2, 3, 4, 4);
        Due.is("copy none", x.copy(0, 5, 1, 3, 0), 0);
        int[][] outside = {{-1, 0, 1}, {0, -1, 1}, {5, 0, 1}, {0, 3, 1}, {6, 0, 0}, {0, 4, 0}, {-1, 0, 0}, {0, -1, 0},
            {0, 0, -1}, {0, 0, 4}, {3, 0, 3}, {MAX, 0, 1}, {0, MAX, 1}, {1, 1, MAX}, {MAX, MAX, MAX}, {MIN, MIN, MIN},
            {2, 2, MIN}};
        for (int[] o : outside) {
            Due.is("copy(0, " + o[0] + ", 1, " + o[1] + ", " + o[2] + ")", x.copy(0, o[0], 1, o[1], o[2]), -12);
        }
        x.sheet(2, 1, 3);
        Due.is("copy to another sort, outside", x.copy(0, -1, 2, 9, -1), -13);
        x.sheet(2, -1, 0);
        Due.is("copy to a missing one", x.copy(0, -1, 2, 9, -1), -11);
        Due.is("copy from a missing one", x.copy(2, -1, 0, 9, -1), -11);
        for (int s : new int[] {-1, 4, MIN, MAX}) {
            Due.is("copy from " + s, x.copy(s, 0, 2, 0, 1), -2);
            Due.is("copy to " + s, x.copy(2, 0, s, 0, 1), -2);
        }
        row(x, 0, 1, 2, 3, 4, 4);
        row(x, 1, 4, 5, 13);
        for (int sort = 0; sort < 2; sort++) {
            x.sheet(0, sort, 3);
            x.cell(0, 2, 17);
            x.sheet(1, sort, 40);
            Due.is("copy of sort " + sort, x.copy(0, 0, 1, 37, 3), 3);
            Due.is("copied of sort " + sort, at(x, 1, 39), 17);
        }
    }

    private static void row(DunesWalked x, int s, int... due) {
        for (int i = 0; i < due.length; i++) {
            Due.is("number " + i + " of sheet " + s, at(x, s, i), due[i]);
        }
    }

    private static void dunesBy() {
        DunesWalked x = new DunesWalked();
        for (int bad : new int[] {-1, 4, MIN, MAX}) {
            Due.is("dunesBy of sheet " + bad, x.dunesBy(bad, 0, 0, 1), -2);
        }
        for (int bad : new int[] {-1, 3, MIN, MAX}) {
            Due.is("dunesBy of sort " + bad, x.dunesBy(0, bad, 0, 1), -2);
        }
        for (int bad : new int[] {-1, 7, MIN, MAX}) {
            Due.is("dunesBy of n " + bad, x.dunesBy(0, 0, 0, bad), -2);
        }
        Due.is("dunesBy of a missing one", x.dunesBy(0, 0, -9, 1), -11);
        Due.sheet(x, 0, 9, 12, 31050, 60, 31050, 47, 52060, 5);
        Due.is("dunesBy of another sort", x.dunesBy(0, 1, -9, 1), -13);
        for (int from : new int[] {-1, -2, 8, 9, MIN, MAX, MAX - 1}) {
            Due.is("dunesBy from " + from, x.dunesBy(0, 2, from, 1), -12);
        }
        Due.is("dunesBy of a half", x.dunesBy(0, 2, 7, 1), -12);
        Due.is("count(0)", x.count(0), 0);
        Due.is("dunesBy of none", x.dunesBy(0, 2, 0, 0), 0);
        // the one in the middle is bad and left out
        Due.is("dunesBy", x.dunesBy(0, 2, 1, 3), 2);
        Due.is("count(0)", x.count(0), 2);
        Due.is("KIND", x.told(0, 3), 1);
        Due.is("MORE", x.told(0, 4), 2);
        Due.is("FRONT", x.told(0, 0), 3);
        Due.is("KIND", x.told(1, 3), 4);
        Due.is("HIGH", x.told(1, 2), 60);
        // outside behind one that came
        Due.is("dunesBy to the end and on", x.dunesBy(0, 2, 5, 2), -12);
        Due.is("count(0)", x.count(0), 3);
        Due.is("dunesBy with one left out and on", x.dunesBy(0, 2, 3, 3), -12);
        Due.is("count(0)", x.count(0), 4);
        // none come when there is no room, but what is outside is still told
        Due.is("dunesBy", x.dunesBy(0, 2, 1, 3), 2);
        Due.is("count(0)", x.count(0), 6);
        Due.is("dunesBy without room", x.dunesBy(0, 2, 1, 3), 0);
        Due.is("dunesBy without room, outside", x.dunesBy(0, 2, 1, 4), -12);
        Due.is("count(0)", x.count(0), 6);
        DunesWalked y = new DunesWalked();
        Due.sheet(y, 1, 0, 1001, 0, 31001, 0, 61001, 0, 91001, 0, 121001, 0, 151001);
        Due.is("dunesBy of six", y.dunesBy(1, 2, 0, 6), 6);
        Due.is("the last one", y.told(5, 0), 15);
    }

    private static void taken() {
        DunesWalked x = new DunesWalked();
        boolean[][] isOne = {
            {true, false, false, false, false, false},
            {true, true, false, false, false, false},
            {true, false, true, false, false, false},
            {true, true, false, true, false, false},
            {true, false, true, false, true, false},
            {true, false, false, false, false, true}};
        Due.is("taken of none", x.taken(0, 0), -11);
        for (int kind = 0; kind < 6; kind++) {
            Due.is("taken of none", x.taken(kind, 6), -11);
            Due.is("taken of none's height", x.taken(6 + kind, 0), -11);
            Due.dune(x, kind, 0, 6 * kind, 1, 11 + kind);
        }
        for (int i = 0; i < 6; i++) {
            for (int kind = 0; kind < 6; kind++) {
                Due.is("taken(" + i + ", " + kind + ")", x.taken(i, kind), isOne[i][kind] ? i : -13);
                Due.is("taken(" + (6 + i) + ", " + kind + ")", x.taken(6 + i, kind), -13);
            }
            Due.is("taken(" + i + ", 6)", x.taken(i, 6), -13);
            Due.is("taken(" + (6 + i) + ", 6)", x.taken(6 + i, 6), 11 + i);
        }
        for (int kind : new int[] {-1, 7, MIN, MAX}) {
            Due.is("taken(0, " + kind + ")", x.taken(0, kind), -2);
            Due.is("taken(99, " + kind + ")", x.taken(99, kind), -2);
        }
        for (int i : new int[] {-1, 12, MIN, MAX}) {
            Due.is("taken(" + i + ", 0)", x.taken(i, 0), -12);
        }
        // gone ones lie there, as high as last: taken up, it did not grow; too low, it did
        x.put(3, 0, 20);
        x.put(5, 0, 20);
        Due.law(x, "walks 0;grows 2;needs 18*(high<16)*(at=6);");
        Due.is("year()", x.year(), 2 + 8);
        Due.is("taken of one that was too low", x.taken(7, 6), 14);
        Due.is("taken of one that was taken up", x.taken(9, 6), 16);
        Due.is("taken of a gone one", x.taken(1, 1), 1);
        Due.is("taken of a gone one as another", x.taken(1, 2), -13);
    }
}
