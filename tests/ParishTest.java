/** Promises 1 to 4 and 8 to 12: the parish and its dunes at one time. */
public final class ParishTest {
    private static final int MIN = Integer.MIN_VALUE, MAX = Integer.MAX_VALUE;

    public static void main(String[] args) {
        newObject();
        count();
        yard();
        parish();
        dune();
        put();
        told();
        toldByKind();
        grows();
        asks();
        Due.end();
    }

    private static void newObject() {
        DunesWalked x = new DunesWalked();
        int[] due = {0, 0, 0, 0, 0, 1, 0, 0};
        for (int what = 0; what < due.length; what++) {
            Due.is("new count(" + what + ")", x.count(what), due[what]);
        }
        for (int what = 0; what < 4; what++) {
            Due.is("new parish(" + what + ")", x.parish(what), 0);
        }
        Due.is("new told(0, 0)", x.told(0, 0), -5);
        Due.is("new back()", x.back(), -3);
        for (int s = 0; s < 4; s++) {
            Due.is("new whose(" + s + ")", x.whose(s), -11);
        }
        Due.is("new run(5, 0)", x.run(5, 0), 0);
        Due.is("new run(5, 10)", x.run(5, 10), -2);
    }

    private static void count() {
        DunesWalked x = new DunesWalked();
        Due.dune(x, 0, 0, 3, 1, 0);
        Due.dune(x, 0, 0, 20, 1, 50);
        Due.houses(x, 0, 5, 39);
        Due.clover(x, 5, 7);
        // dune 0 walks to 5 where clover is, shrinks to 0 and needs 1
        Due.is("year()", x.year(), 1);
        Due.is("count(0)", x.count(0), 2);
        Due.is("count(1)", x.count(1), 1);
        Due.is("count(2)", x.count(2), 1);
        Due.is("count(3)", x.count(3), 3);
        Due.is("count(4)", x.count(4), 2);
        Due.law(x, "walks 1 ; grows 0 ; needs 0 ;");
        Due.feed(x, "abcdefg");
        Due.is("count(5)", x.count(5), 2);
        Due.is("count(6)", x.count(6), 1);
        Due.is("count(7)", x.count(7), 7);
        for (int what : new int[] {-1, 8, MIN, MAX}) {
            Due.is("count(" + what + ")", x.count(what), -2);
        }
    }

    private static void yard() {
        DunesWalked x = new DunesWalked();
        for (int what = 0; what < 2; what++) {
            for (int y : new int[] {0, 17, 31, 32, 39}) {
                Due.is("yard first", x.yard(y, what, 1), 0);
                Due.is("yard again", x.yard(y, what, 1), 1);
                Due.is("parish", x.parish(what), 1L << y);
                Due.is("yard none", x.yard(y, what, 0), 1);
                Due.is("yard none again", x.yard(y, what, 0), 0);
                Due.is("parish", x.parish(what), 0);
                Due.is("parish of the other", x.parish(1 - what), 0);
            }
        }
        for (int y : new int[] {-1, 40, 64, MIN, MAX}) {
            Due.is("yard(" + y + ", 0, 1)", x.yard(y, 0, 1), -5);
            Due.is("yard(" + y + ", 9, 9)", x.yard(y, 9, 9), -5);
        }
        for (int bad : new int[] {-1, 2, MIN, MAX}) {
            Due.is("yard(0, " + bad + ", 1)", x.yard(0, bad, 1), -7);
            Due.is("yard(0, 0, " + bad + ")", x.yard(0, 0, bad), -7);
            Due.is("yard(39, 1, " + bad + ")", x.yard(39, 1, bad), -7);
        }
        Due.is("parish(0) behind refusals", x.parish(0), 0);
        Due.is("parish(1) behind refusals", x.parish(1), 0);
    }

    private static void parish() {
        DunesWalked x = new DunesWalked();
        Due.houses(x, 0, 2, 10, 39);
        Due.clover(x, 1, 38);
        Due.dune(x, 0, 0, 1, 9, 10);
        Due.dune(x, 0, 0, 39, 2, 10);
        Due.is("parish(0)", x.parish(0), 1L | 4L | 1024L | 1L << 39);
        Due.is("parish(1)", x.parish(1), 2L | 1L << 38);
        Due.is("parish(2)", x.parish(2), 3L | 1L << 38 | 1L << 39);
        Due.is("parish(3)", x.parish(3), 1L | 1L << 39);
        for (int what : new int[] {-1, 4, MIN, MAX}) {
            Due.is("parish(" + what + ")", x.parish(what), DunesWalked.NO);
        }
        // the dune at 39 is gone by the text, and lies on nothing then
        Due.law(x, "walks 0 ; grows 0 ; needs at ;");
        x.year();
        Due.is("parish(2) of the other", x.parish(2), 3L);
        Due.is("parish(3) of the other", x.parish(3), 1L);
    }

    private static void dune() {
        DunesWalked x = new DunesWalked();
        for (int kindMore : new int[] {-1, 60, MIN, MAX}) {
            Due.is("dune(" + kindMore + ", 1000)", x.dune(kindMore, 1000), -2);
        }
        for (int bad : new int[] {-1, 0, 99, 999, 1100, 1999, 10030, 390000, 399100, 400000, 401000, MIN, MAX}) {
            Due.is("dune(0, " + bad + ")", x.dune(0, bad), -2);
        }
        Due.is("count(0)", x.count(0), 0);
        Due.is("dune(59, 399099)", x.dune(59, 399099), 0);
        int[] due = {39, 9, 99, 5, 9};
        for (int what = 0; what < 5; what++) {
            Due.is("told(0, " + what + ")", x.told(0, what), due[what]);
        }
        Due.is("dune(0, 1000)", x.dune(0, 1000), 1);
        int[] least = {0, 1, 0, 0, 0};
        for (int what = 0; what < 5; what++) {
            Due.is("told(1, " + what + ")", x.told(1, what), least[what]);
        }
        Due.is("year()", x.year(), 0);
        Due.is("dune(34, 57042)", x.dune(34, 57042), 2);
        int[] middle = {5, 7, 42, 3, 4};
        for (int what = 0; what < 5; what++) {
            Due.is("told(2, " + what + ")", x.told(2, what), middle[what]);
        }
        for (int d = 3; d < 6; d++) {
            Due.is("dune(50, 201000)", x.dune(50, 201000), d);
        }
        Due.is("dune(0, 1000) of seven", x.dune(0, 1000), -4);
        Due.is("dune(60, 1000) of seven", x.dune(60, 1000), -2);
        Due.is("dune(0, 0) of seven", x.dune(0, 0), -2);
        // dune 2 takes up dune 1, those of no height do not live; the gone ones still count
        Due.is("year()", x.year(), 2 + 8 + 16 + 32);
        Due.is("count(1)", x.count(1), 2);
        Due.is("dune(0, 1000) of gone ones", x.dune(0, 1000), -4);
    }

    private static void put() {
        DunesWalked x = new DunesWalked();
        Due.dune(x, 0, 0, 7, 3, 20);
        Due.is("put FRONT", x.put(0, 0, 39), 7);
        Due.is("put FRONT", x.put(0, 0, 0), 39);
        Due.is("put LONG", x.put(0, 1, 9), 3);
        Due.is("put LONG", x.put(0, 1, 1), 9);
        Due.is("put HIGH", x.put(0, 2, 99), 20);
        Due.is("put HIGH", x.put(0, 2, 0), 99);
        for (int d : new int[] {-1, 1, 6, MIN, MAX}) {
            Due.is("put of none", x.put(d, 0, 5), -5);
            Due.is("put of none, all wrong", x.put(d, 9, -9), -5);
        }
        for (int what : new int[] {-1, 3, 4, MIN, MAX}) {
            Due.is("put what " + what, x.put(0, what, 1), -7);
        }
        int[][] bad = {{0, -1}, {0, 40}, {1, 0}, {1, 10}, {2, -1}, {2, 100}, {0, MIN}, {0, MAX}, {2, MAX}};
        for (int[] b : bad) {
            Due.is("put(0, " + b[0] + ", " + b[1] + ")", x.put(0, b[0], b[1]), -7);
        }
        Due.is("told FRONT", x.told(0, 0), 0);
        Due.is("told LONG", x.told(0, 1), 1);
        Due.is("told HIGH", x.told(0, 2), 0);
        Due.law(x, "walks 0 ; grows 0 ; needs 9 ;");
        Due.is("year()", x.year(), 1);
        Due.is("put of a gone one", x.put(0, 0, 5), -5);
    }

    private static void told() {
        DunesWalked x = new DunesWalked();
        Due.dune(x, 0, 3, 10, 3, 44);
        Due.houses(x, 7, 8, 9, 11);
        Due.is("told 5 without clover", x.told(0, 5), 0);
        Due.clover(x, 7, 11);
        Due.is("told 5 with clover beside", x.told(0, 5), 0);
        Due.clover(x, 8);
        Due.is("told 5 with clover", x.told(0, 5), 1);
        Due.is("told 8", x.told(0, 8), 2);
        // yards below the sea are none
        x.put(0, 0, 1);
        x.put(0, 1, 9);
        Due.houses(x, 0, 39);
        Due.is("told 8 at the sea", x.told(0, 8), 1);
        Due.is("told 5 at the sea", x.told(0, 5), 0);
        for (int what : new int[] {-1, 9, MIN, MAX}) {
            Due.is("told(0, " + what + ")", x.told(0, what), -7);
        }
        for (int d : new int[] {-1, 1, 5, 6, MIN, MAX}) {
            Due.is("told of none", x.told(d, 0), -5);
            Due.is("told of none, wrong what", x.told(d, 99), -5);
        }
    }

    /** WALKS, GROWS, NEEDS of each kind, by a text that says 5, -7 on clover or 8, 20. */
    private static void toldByKind() {
        DunesWalked x = new DunesWalked();
        Due.law(x, "walks 5 ; grows 8 - 15 * clover ; needs 20 ;");
        Due.clover(x, 30);
        for (int kind = 0; kind < 6; kind++) {
            Due.dune(x, kind, 3, 10, 1, 50);
        }
        kindsAre(x, new int[] {5, 3, 6, 3, 12, 0}, new int[] {8, 8, 8, 8, 5, 0}, new int[] {20, 20, 23, 0, 23, 20});
        for (int d = 0; d < 6; d++) {
            x.put(d, 0, 30);
            x.put(d, 2, 51);
        }
        // half of -7 is cut to -3
        kindsAre(x, new int[] {5, 3, 2, 3, 4, 0}, new int[] {-7, -3, -7, -3, -10, -3},
            new int[] {20, 20, 23, 0, 23, 20});
        // an odd year stops the abels alone, and MORE above what the text says leaves the walked ones that
        for (int d = 0; d < 6; d++) {
            x.put(d, 0, 0);
        }
        DunesWalked y = new DunesWalked();
        Due.law(y, "walks 5 ; grows 8 - 15 * clover ; needs 20 ;");
        y.year();
        for (int kind = 0; kind < 6; kind++) {
            Due.dune(y, kind, 9, 10, 1, 50);
        }
        kindsAre(y, new int[] {5, 5, 6, 0, 12, 0}, new int[] {8, 8, 8, 8, -1, 0}, new int[] {20, 20, 29, 0, 29, 20});
        y.year();
        DunesWalked z = new DunesWalked();
        z.year();
        z.year();
        Due.dune(z, 3, 9, 10, 1, 50);
        Due.is("an abels in an even year", z.told(0, 6), 2);
    }

    private static void kindsAre(DunesWalked x, int[] walks, int[] grows, int[] needs) {
        for (int d = 0; d < 6; d++) {
            Due.is("walks of kind " + d, x.told(d, 6), walks[d]);
            Due.is("grows of kind " + d, x.grows(d), grows[d]);
            Due.is("needs of kind " + d, x.told(d, 7), needs[d]);
        }
    }

    private static void grows() {
        DunesWalked x = new DunesWalked();
        Due.dune(x, 4, 9, 10, 1, 50);
        Due.dune(x, 5, 0, 10, 1, 50);
        Due.law(x, "walks 0 ; grows - 200 ; needs 0 ;");
        Due.is("grows of a gale, below what a text says", x.grows(0), -108);
        Due.is("grows of a still one with MORE 0", x.grows(1), 0);
        for (int d : new int[] {-1, 2, 6, MIN, MAX}) {
            Due.is("grows of none", x.grows(d), -1000);
        }
        Due.law(x, "walks 0 ; grows 0 ; needs 60 ;");
        x.year();
        Due.is("grows of a gone one", x.grows(0), -1000);
    }

    private static void asks() {
        DunesWalked x = new DunesWalked();
        Due.dune(x, 4, 6, 12, 5, 77);
        Due.dune(x, 1, 0, 3, 1, 0);
        Due.is("asks(0, 0)", x.asks(0, 0), 2);
        Due.is("asks(1, 0)", x.asks(1, 0), 1);
        Due.is("asks(2, 0)", x.asks(2, 0), 1);
        Due.clover(x, 8);
        Due.is("asks(1, 0) on clover", x.asks(1, 0), -8);
        Due.clover(x, 3);
        Due.is("asks(1, 1): what the text says, not half", x.asks(1, 1), -8);
        for (int bad : new int[] {-1, 3, MIN, MAX}) {
            Due.is("asks(" + bad + ", 0)", x.asks(bad, 0), -1000);
        }
        for (int bad : new int[] {-1, 2, 6, MIN, MAX}) {
            Due.is("asks(0, " + bad + ")", x.asks(0, bad), -1000);
        }
        Due.law(x, "walks 10 ; grows 100 ; needs 100 ;");
        Due.is("walks at most", x.asks(0, 0), 9);
        Due.is("grows at most", x.asks(1, 0), 99);
        Due.is("needs at most", x.asks(2, 0), 99);
        Due.law(x, "walks -1 ; grows -100 ; needs -1 ;");
        Due.is("walks at least", x.asks(0, 0), 0);
        Due.is("grows at least", x.asks(1, 0), -99);
        Due.is("needs at least", x.asks(2, 0), 0);
        x.put(1, 2, 50);
        Due.law(x, "walks 0 ; grows 0 ; needs 60 ;");
        Due.is("year()", x.year(), 2);
        Due.is("asks of a gone one", x.asks(0, 1), -1000);
    }
}
