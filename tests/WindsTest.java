/** Promises 28 to 31: winds by lots, the image. */
public final class WindsTest {
    private static final int MIN = Integer.MIN_VALUE, MAX = Integer.MAX_VALUE;

    public static void main(String[] args) {
        drawn();
        drawnByPuts();
        odds();
        image();
        Due.end();
    }

    private static void drawn() {
        DunesWalked x = new DunesWalked();
        Due.is("drawn(0, 0) of nothing", x.drawn(0, 0), 0);
        Due.is("drawn(0, 1) of nothing", x.drawn(0, 1), 0);
        for (int bad : new int[] {-1, 100000, MIN, MAX}) {
            Due.is("drawn(" + bad + ", 0)", x.drawn(bad, 0), -2);
        }
        for (int bad : new int[] {-1, 2, MIN, MAX}) {
            Due.is("drawn(0, " + bad + ")", x.drawn(0, bad), -2);
        }
        Due.is("drawn(99999, 0)", x.drawn(99999, 0), 0);
        // seed 0: lots 48271 (modulo 6 is 1), 182605794 (modulo 4 is 2): dune 1 is 2 further ahead of the first year
        Due.law(x, "walks 0;grows 0;needs 50*(at=12)*(year=0);");
        Due.dune(x, 0, 0, 10, 1, 40);
        Due.dune(x, 0, 0, 10, 1, 40);
        Due.is("drawn(0, 1)", x.drawn(0, 1), 1);
        Due.is("in thought alone", x.told(1, 0), 10);
        Due.is("in thought alone", x.count(2), 0);
    }

    /** The same six years by put() and year() on another object. */
    private static void drawnByPuts() {
        int[] seeds = {0, 1, 2, 7, 40, 4711, 48270, 99998, 99999};
        for (int seed : seeds) {
            DunesWalked asked = parish();
            DunesWalked lived = parish();
            long lot = seed + 1;
            int together = 0;
            for (int t = 0; t < 6; t++) {
                lot = lot * 48271 % 2147483647;
                int d = (int) (lot % 6);
                lot = lot * 48271 % 2147483647;
                int front = lived.told(d, 0);
                if (front >= 0) {
                    lived.put(d, 0, Math.min(39, front + (int) (lot % 4)));
                }
                lived.year();
                together += lived.run(0, 1);
            }
            Due.is("drawn(" + seed + ", 0)", asked.drawn(seed, 0), together);
            Due.is("drawn(" + seed + ", 1)", asked.drawn(seed, 1), lived.run(0, 0));
            Due.is("drawn(" + seed + ", 0) again", asked.drawn(seed, 0), together);
        }
    }

    private static DunesWalked parish() {
        DunesWalked x = new DunesWalked();
        Due.houses(x, 4, 6, 9, 12, 15, 16, 20, 22, 25, 29, 33, 36, 39);
        Due.clover(x, 11, 27);
        Due.dune(x, 0, 0, 2, 3, 30);
        Due.dune(x, 1, 1, 8, 2, 45);
        Due.dune(x, 2, 3, 13, 1, 60);
        Due.dune(x, 3, 4, 20, 4, 12);
        Due.dune(x, 0, 0, 37, 2, 5);
        return x;
    }

    private static void odds() {
        DunesWalked x = parish();
        int[][] asks = {{0, 40, 0}, {5, 12, 13}, {5, 12, 14}, {99999, 40, 12}, {99990, 30, 15}, {3, 1, 999}, {3, 1, 0}};
        for (int[] a : asks) {
            int enough = 0;
            for (int seed = a[0]; seed < a[0] + a[1] && seed < 100000; seed++) {
                enough += x.drawn(seed, 0) >= a[2] ? 1 : 0;
            }
            if (a[0] + a[1] <= 100000) {
                int common = Due.common(enough, a[1]);
                Due.is("odds of seed " + a[0] + ", above", x.odds(a[0], a[1], a[2], 0), enough / common);
                Due.is("odds of seed " + a[0] + ", below", x.odds(a[0], a[1], a[2], 1), a[1] / common);
            }
        }
        // dune 0 alone has lots of its own: each seed, and each seed 1 more, is told from its neighbours
        DunesWalked y = new DunesWalked();
        Due.dune(y, 5, 0, 10, 1, 90);
        Due.houses(y, 12, 13);
        for (int seed = 0; seed < 60; seed++) {
            int enough = (y.drawn(seed, 0) > 1 ? 1 : 0) + (y.drawn(seed + 1, 0) > 1 ? 1 : 0);
            Due.is("odds of two, above", y.odds(seed, 2, 2, 0), enough == 0 ? 0 : 1);
            Due.is("odds of two, below", y.odds(seed, 2, 2, 1), enough == 1 ? 2 : 1);
        }
        Due.is("odds of none", x.odds(3, 7, 999, 0), 0);
        Due.is("odds of none", x.odds(3, 7, 999, 1), 1);
        Due.is("odds of all", x.odds(99999, 40, 0, 0), 1);
        Due.is("odds of all", x.odds(99999, 40, 0, 1), 1);
        // a seed beyond 99999 counts: with 99999 alone it is one of one, or none
        int least = x.drawn(99999, 0);
        Due.is("odds of the last", x.odds(99999, 1, least, 0), 1);
        Due.is("odds of the last", x.odds(99999, 1, least + 1, 0), 0);
        int[][] bad = {{-1, 1, 0, 0}, {100000, 1, 0, 0}, {0, 0, 0, 0}, {0, 41, 0, 0}, {0, 1, -1, 0}, {0, 1, 1000, 0},
            {0, 1, 0, -1}, {0, 1, 0, 2}, {MIN, MIN, MIN, MIN}, {MAX, MAX, MAX, MAX}};
        for (int[] b : bad) {
            Due.is("odds of " + b[0] + ", " + b[1] + ", " + b[2] + ", " + b[3], x.odds(b[0], b[1], b[2], b[3]),
                DunesWalked.NO);
        }
    }

    private static void image() {
        DunesWalked x = new DunesWalked();
        Due.is("back() without an image", x.back(), -3);
        Due.houses(x, 1, 2);
        Due.clover(x, 3);
        Due.dune(x, 5, 0, 10, 2, 20);
        Due.dune(x, 5, 0, 20, 2, 0);
        Due.feed(x, "walks 4;grows 5;needs 0;");
        x.text();
        Due.is("image()", x.image(), 2);
        x.yard(1, 0, 0);
        x.yard(9, 0, 1);
        x.yard(3, 1, 0);
        x.yard(4, 1, 1);
        Due.is("year()", x.year(), 2);
        x.put(0, 0, 5);
        x.put(0, 1, 7);
        x.put(0, 2, 90);
        x.force(1);
        x.sheet(2, 0, 3);
        Due.feed(x, "walks");
        Due.is("dune", x.dune(47, 31005), 2);
        Due.is("count(0)", x.count(0), 3);
        Due.is("back()", x.back(), 2);
        Due.is("HOUSES", x.parish(0), 6);
        Due.is("CLOVER", x.parish(1), 8);
        Due.is("FRONT", x.told(0, 0), 10);
        Due.is("LONG", x.told(0, 1), 2);
        Due.is("HIGH", x.told(0, 2), 20);
        Due.is("what was gone is not", x.told(1, 0), 20);
        Due.is("YEAR", x.count(2), 0);
        Due.is("THE LAW", x.count(6), 0);
        Due.is("DUNES", x.count(0), 2);
        Due.is("DUNES that aren't gone", x.count(1), 2);
        Due.is("a dune that came since", x.told(2, 0), -5);
        Due.is("a dune that came since", x.taken(2, 0), -11);
        Due.is("a dune that came since", x.run(3, 0), 1);
        Due.is("TEXTS stay", x.count(5), 2);
        Due.is("THE TAPE stays", x.count(7), 5);
        Due.is("SHEETS stay", x.cell(2, 2, 1), 1);
        Due.is("a new dune has its number", x.dune(18, 31005), 2);
        Due.is("its kind", x.told(2, 3), 1);
        // back again: the image is kept; and what is gone in it is gone again
        Due.is("back() again", x.back(), 2);
        x.year();
        Due.is("image() counts gone ones", x.image(), 2);
        x.dune(0, 31005);
        Due.is("back()", x.back(), 2);
        Due.is("gone in the image", x.told(1, 0), -5);
        Due.is("gone in the image, how high", x.taken(7, 6), 0);
        Due.is("YEAR", x.count(2), 1);
        // an image of nothing is one
        DunesWalked y = new DunesWalked();
        Due.is("image()", y.image(), 0);
        Due.dune(y, 0, 0, 10, 2, 20);
        y.put(0, 2, 30);
        Due.is("back()", y.back(), 0);
        Due.is("count(0)", y.count(0), 0);
        Due.is("count(1)", y.count(1), 0);
        Due.is("dune", y.dune(0, 1000), 0);
    }
}
