/** Promises 13 to 17: years that pass truly or in thought. */
public final class YearsTest {
    private static final int MIN = Integer.MIN_VALUE, MAX = Integer.MAX_VALUE;

    public static void main(String[] args) {
        year();
        takingUp();
        inOrder();
        heights();
        lastYear();
        run();
        comes();
        ends();
        first();
        Due.end();
    }

    private static void is(DunesWalked x, int d, int front, int high) {
        Due.is("FRONT of dune " + d, x.told(d, 0), front);
        Due.is("HIGH of dune " + d, x.told(d, 2), high);
    }

    private static void year() {
        DunesWalked x = new DunesWalked();
        Due.dune(x, 0, 0, 10, 2, 30);
        Due.dune(x, 0, 0, 38, 2, 30);
        Due.is("year()", x.year(), 0);
        is(x, 0, 12, 31);
        is(x, 1, 39, 31);
        Due.is("count(2)", x.count(2), 1);
        Due.is("year()", x.year(), 0);
        is(x, 0, 14, 32);
        is(x, 1, 39, 32);
        // growth is by the place where it comes to
        Due.clover(x, 15);
        Due.is("year()", x.year(), 0);
        is(x, 0, 16, 24);
        x.yard(15, 1, 0);
        Due.is("year()", x.year(), 0);
        is(x, 0, 18, 25);
    }

    private static void takingUp() {
        DunesWalked x = new DunesWalked();
        Due.law(x, "walks 1;grows 0;needs 1;");
        Due.dune(x, 0, 0, 5, 1, 20);
        Due.dune(x, 0, 0, 6, 1, 20);
        // one like high is taken up; half of it is added
        Due.is("year() of like ones", x.year(), 2);
        is(x, 0, 6, 30);
        Due.dune(x, 5, 0, 9, 3, 31);
        // it comes to a still one that is higher: nothing; that one takes it up in its turn
        Due.is("year() to a higher one", x.year(), 1);
        is(x, 2, 9, 46);
        Due.dune(x, 5, 0, 20, 2, 15);
        Due.dune(x, 5, 0, 22, 2, 16);
        Due.dune(x, 1, 1, 18, 2, 10);
        // the last one takes up none that is higher, but is taken up next year by the first that it lies on
        Due.is("year() of yards beside", x.year(), 0);
        is(x, 5, 19, 10);
        Due.is("year() of one that is taken up", x.year(), 32);
        is(x, 3, 20, 20);
        Due.is("count(1)", x.count(1), 3);
    }

    private static void inOrder() {
        DunesWalked x = new DunesWalked();
        Due.law(x, "walks 0;grows 0;needs 0;");
        Due.dune(x, 0, 0, 10, 3, 10);
        Due.dune(x, 0, 0, 9, 1, 14);
        Due.dune(x, 0, 0, 10, 1, 9);
        Due.dune(x, 0, 0, 8, 1, 15);
        // dune 0: not 1 (14 > 10), then 2 (it is 14 high then), then not 3 (15 > 14); dune 1 takes up 0 (14), is 21
        Due.is("year()", x.year(), 4 + 1);
        is(x, 1, 9, 21);
        is(x, 3, 8, 15);
        // as it is then: with 3 ahead of 2 in height all come
        DunesWalked y = new DunesWalked();
        Due.law(y, "walks 0;grows 0;needs 0;");
        Due.dune(y, 0, 0, 10, 3, 10);
        Due.dune(y, 0, 0, 9, 1, 9);
        Due.dune(y, 0, 0, 10, 1, 14);
        Due.dune(y, 0, 0, 8, 1, 21);
        Due.is("year()", y.year(), 2 + 4 + 8);
        is(y, 0, 10, 31);
        // one that was taken up walks no more in that year
        DunesWalked z = new DunesWalked();
        Due.law(z, "walks 3;grows 0;needs 0;");
        Due.dune(z, 0, 0, 4, 1, 50);
        Due.dune(z, 0, 0, 7, 1, 40);
        Due.dune(z, 0, 0, 10, 1, 5);
        Due.is("year()", z.year(), 2);
        is(z, 0, 7, 70);
        is(z, 2, 13, 5);
        // a higher number has not walked yet, a lower one has
        DunesWalked w = new DunesWalked();
        Due.law(w, "walks 3;grows 0;needs 0;");
        Due.dune(w, 0, 0, 7, 1, 5);
        Due.dune(w, 0, 0, 7, 1, 40);
        Due.is("year()", w.year(), 1);
    }

    private static void heights() {
        DunesWalked x = new DunesWalked();
        Due.law(x, "walks 0;grows 2 - 90 * clover;needs 1;");
        Due.dune(x, 0, 0, 10, 1, 80);
        Due.dune(x, 0, 0, 10, 1, 79);
        // 80 and 39 are 99 at most, and growing keeps it there
        Due.is("year()", x.year(), 2);
        is(x, 0, 10, 99);
        // 99 at most comes ahead of the growth
        x.put(0, 2, 70);
        Due.dune(x, 0, 0, 10, 1, 69);
        Due.clover(x, 10);
        Due.is("year()", x.year(), 4);
        is(x, 0, 10, 11);
        Due.is("year()", x.year(), 1);
        Due.is("count(1)", x.count(1), 0);
        // 0 at least: a dune that needs nothing lives on at 0
        DunesWalked y = new DunesWalked();
        Due.law(y, "walks 0;grows -99;needs 0;");
        Due.dune(y, 0, 0, 10, 1, 50);
        Due.is("year()", y.year(), 0);
        is(y, 0, 10, 0);
        // exactly what it needs is enough
        DunesWalked z = new DunesWalked();
        Due.law(z, "walks 0;grows 1;needs 31;");
        Due.dune(z, 0, 0, 10, 1, 30);
        Due.dune(z, 0, 0, 20, 1, 29);
        Due.is("year()", z.year(), 2);
        is(z, 0, 10, 31);
        // needs are told of the height behind the growth, at the place where it is
        DunesWalked w = new DunesWalked();
        Due.law(w, "walks 4;grows 10;needs 5*(high=40)*(at=14)*9;");
        Due.dune(w, 0, 0, 10, 1, 30);
        Due.is("year()", w.year(), 1);
        // the year is 1 more at last: all dunes of a year are told with the same one
        DunesWalked v = new DunesWalked();
        Due.law(v, "walks 1 + year;grows year;needs year;");
        Due.dune(v, 0, 0, 10, 1, 30);
        Due.dune(v, 0, 0, 20, 1, 30);
        v.year();
        is(v, 0, 11, 30);
        is(v, 1, 21, 30);
        v.year();
        is(v, 0, 13, 31);
        is(v, 1, 23, 31);
    }

    private static void lastYear() {
        DunesWalked x = new DunesWalked();
        // 512 calls do not reach 999 by years alone; 500 of them keep counting
        for (int i = 0; i < 500; i++) {
            Due.is("year()", x.year(), 0);
        }
        Due.is("count(2)", x.count(2), 500);
        // beyond what is promised of calls, STATE still stands as told
        for (int i = 500; i < 999; i++) {
            Due.is("year()", x.year(), 0);
        }
        Due.is("count(2)", x.count(2), 999);
        Due.is("year() at 999", x.year(), -3);
        Due.is("count(2)", x.count(2), 999);
        Due.dune(x, 0, 0, 0, 1, 50);
        Due.law(x, "walks (year = 1005) * 9;grows 0;needs 0;");
        Due.is("in thought it passes 999", x.run(6, 10), 0);
        Due.is("in thought it passes 999", x.run(7, 10), 9);
    }

    private static void run() {
        DunesWalked x = new DunesWalked();
        Due.houses(x, 3, 6, 7);
        Due.dune(x, 0, 0, 0, 2, 10);
        Due.dune(x, 0, 0, 20, 1, 3);
        Due.clover(x, 24);
        // fronts 0, 2, 4, 6, 8: yards 1..2, 3..4, 5..6, 7..8; dune 1 is gone in its second year, on clover
        int[] buried = {0, 0, 1, 1, 1, 0};
        int together = 0;
        for (int n = 0; n <= 5; n++) {
            together += buried[n];
            Due.is("run(" + n + ", 0)", x.run(n, 0), n < 2 ? 3 : 1);
            Due.is("run(" + n + ", 1)", x.run(n, 1), buried[n]);
            Due.is("run(" + n + ", 2)", x.run(n, 2), together);
            Due.is("run(" + n + ", 10)", x.run(n, 10), 2 * n);
            Due.is("run(" + n + ", 20)", x.run(n, 20), 10 + n);
            Due.is("run(" + n + ", 11)", x.run(n, 11), n < 2 ? 20 + 2 * n : -1);
            Due.is("run(" + n + ", 21)", x.run(n, 21), n < 2 ? 3 + n : -1);
        }
        Due.is("run(40, 10)", x.run(40, 10), 39);
        for (int n : new int[] {-1, 41, MIN, MAX}) {
            Due.is("run(" + n + ", 0)", x.run(n, 0), -2);
            Due.is("run(" + n + ", 21)", x.run(n, 21), -2);
        }
        for (int what : new int[] {-1, 3, 9, 12, 15, 16, 19, 22, 25, 26, 30, MIN, MAX, MIN + 10, MIN + 20}) {
            Due.is("run(1, " + what + ")", x.run(1, what), -2);
        }
        Due.is("in thought alone", x.count(2), 0);
        is(x, 0, 0, 10);
        is(x, 1, 20, 3);
        // what is buried now does not count among what is behind the years
        x.put(0, 0, 3);
        Due.is("run(0, 1)", x.run(0, 1), 1);
        Due.is("run(0, 2)", x.run(0, 2), 0);
        x.year();
        Due.is("year()", x.year(), 2);
        Due.is("run of a gone one", x.run(0, 11), -2);
        Due.is("run of a gone one", x.run(0, 21), -2);
    }

    private static void comes() {
        DunesWalked x = new DunesWalked();
        Due.dune(x, 0, 0, 0, 3, 10);
        Due.dune(x, 0, 0, 10, 1, 90);
        // dune 0: 0, 2 (0..2), 4 (2..4), 6 (4..6), ...; dune 1: 10, 12, .. 38, 39 and on
        int[][] due = {
            {0, 0, 2, 0}, {1, 1, 1, 0}, {2, 1, 2, 0}, {3, 2, 1, 0}, {10, 0, 1, 1}, {11, 6, 1, 0},
            {12, 1, 1, 1}, {38, 14, 1, 1}, {39, 15, 26, 1}, {37, 19, 22, 0}};
        DunesWalked y = new DunesWalked();
        Due.dune(y, 0, 0, 0, 3, 10);
        Due.dune(y, 5, 0, 10, 1, 99);
        Due.law(y, "walks 2;grows 0;needs 0;");
        for (int[] d : due) {
            boolean atEnd = d[0] == 37;
            if (!atEnd) {
                Due.is("comes(" + d[0] + ", 0)", x.comes(d[0], 0), d[1]);
                Due.is("comes(" + d[0] + ", 1)", x.comes(d[0], 1), d[2]);
                Due.is("comes(" + d[0] + ", 2)", x.comes(d[0], 2), d[3]);
            }
        }
        // of several the first; a yard that is free again and then under another counts the first time alone
        DunesWalked z = new DunesWalked();
        Due.law(z, "walks 3;grows 0;needs 0;");
        Due.dune(z, 5, 0, 12, 3, 50);
        Due.dune(z, 0, 0, 6, 1, 60);
        Due.dune(z, 0, 0, 1, 1, 70);
        Due.is("comes(7, 0)", z.comes(7, 0), 2);
        Due.is("comes(7, 1)", z.comes(7, 1), 1);
        Due.is("comes(7, 2)", z.comes(7, 2), 2);
        Due.is("comes(11, 1)", z.comes(11, 1), 2);
        Due.is("comes(12, 0)", z.comes(12, 0), 0);
        Due.is("comes(12, 1)", z.comes(12, 1), 3);
        Due.is("comes(0, 0)", z.comes(0, 0), -1);
        Due.is("comes(0, 1)", z.comes(0, 1), 0);
        Due.is("comes(0, 2)", z.comes(0, 2), -1);
        // from now to the fortieth year: 41 years, and a yard that is reached in the last one of them
        DunesWalked w = new DunesWalked();
        Due.law(w, "walks 1 - (year < 4);grows 0;needs 0;");
        Due.dune(w, 0, 0, 3, 1, 50);
        Due.dune(w, 0, 0, 3, 1, 60);
        Due.dune(w, 5, 0, 1, 1, 60);
        Due.is("comes(1, 1)", w.comes(1, 1), 41);
        Due.is("comes(3, 2) of several", w.comes(3, 2), 0);
        Due.is("comes(39, 0)", w.comes(39, 0), 40);
        Due.is("comes(39, 1)", w.comes(39, 1), 1);
        w.put(1, 0, 2);
        w.put(0, 0, 2);
        Due.is("comes(39, 0) in the 41st", w.comes(39, 0), -1);
        Due.is("comes(39, 1) in the 41st", w.comes(39, 1), 0);
        Due.is("comes(39, 2) in the 41st", w.comes(39, 2), -1);
        for (int bad : new int[] {-1, 40, MIN, MAX}) {
            Due.is("comes(" + bad + ", 0)", w.comes(bad, 0), -5);
            Due.is("comes(" + bad + ", 7)", w.comes(bad, 7), -5);
        }
        for (int bad : new int[] {-1, 3, MIN, MAX}) {
            Due.is("comes(0, " + bad + ")", w.comes(0, bad), -7);
        }
    }

    private static void ends() {
        DunesWalked x = new DunesWalked();
        Due.law(x, "walks 0;grows -1;needs 10;");
        Due.dune(x, 0, 0, 5, 1, 10);
        Due.dune(x, 0, 0, 10, 1, 48);
        Due.dune(x, 0, 0, 15, 1, 49);
        Due.dune(x, 0, 0, 20, 1, 50);
        Due.is("ends(0)", x.ends(0), 1);
        Due.is("ends(1)", x.ends(1), 39);
        Due.is("ends(2)", x.ends(2), 40);
        Due.is("ends(3)", x.ends(3), -1);
        for (int d : new int[] {-1, 4, 6, MIN, MAX}) {
            Due.is("ends(" + d + ")", x.ends(d), -5);
        }
        Due.is("year()", x.year(), 1);
        Due.is("ends(0) of a gone one", x.ends(0), -5);
        Due.is("ends(3)", x.ends(3), 40);
    }

    private static void first() {
        DunesWalked x = new DunesWalked();
        Due.is("first(0) of none", x.first(0), -1);
        Due.is("first(1) of none", x.first(1), -1);
        Due.dune(x, 0, 0, 5, 1, 30);
        Due.dune(x, 2, 0, 30, 1, 30);
        Due.dune(x, 2, 0, 25, 1, 49);
        // 0 takes 17 years; 1 takes 3; 2 takes 2 for 31, then is 51 high, and 8 for the rest
        Due.is("first(0)", x.first(0), 1);
        Due.is("first(1)", x.first(1), 3);
        x.put(1, 2, 0);
        x.put(1, 0, 25);
        Due.is("first(0) without it", x.first(0), 2);
        Due.is("first(1) without it", x.first(1), 10);
        x.put(2, 0, 39);
        Due.is("first(0)", x.first(0), 2);
        Due.is("first(1)", x.first(1), 0);
        x.put(0, 0, 39);
        Due.is("first(0) of like ones", x.first(0), 0);
        for (int what : new int[] {-1, 2, MIN, MAX}) {
            Due.is("first(" + what + ")", x.first(what), -2);
        }
        // yard 39 is reached in the fortieth year, or too late; what lies on it is not enough
        DunesWalked y = new DunesWalked();
        Due.law(y, "walks 1 - (year = 0);grows 0;needs 0;");
        Due.dune(y, 0, 0, 0, 1, 30);
        Due.is("first(0) in the fortieth", y.first(0), 0);
        Due.is("first(1) in the fortieth", y.first(1), 40);
        Due.law(y, "walks 1 - (year < 2);grows 0;needs 0;");
        Due.is("first(0) too late", y.first(0), -1);
        Due.is("first(1) too late", y.first(1), -1);
        // one that comes there and is gone in that year does not count
        Due.law(y, "walks 9;grows 0;needs 50*(at=39);");
        Due.is("first(0) of one that is gone", y.first(0), -1);
    }
}
