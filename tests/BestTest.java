/** Promises 18 to 21: where to sow, which house to move, which dune to be without, shares. */
public final class BestTest {
    private static final int MIN = Integer.MIN_VALUE, MAX = Integer.MAX_VALUE;

    public static void main(String[] args) {
        sow();
        move();
        hold();
        share();
        refusals();
        Due.end();
    }

    private static void sow() {
        DunesWalked x = new DunesWalked();
        Due.dune(x, 0, 0, 0, 1, 10);
        Due.houses(x, 6, 8);
        // fronts 2, 4, 6, 8; clover where it comes to takes 8 in place of giving 1: sown on 2 or 4 it is 2 high,
        // lives, and comes to 6 and 8; two sowings would be needed
        Due.is("sow(4, 0)", x.sow(4, 0), -1);
        Due.is("sow(4, 1)", x.sow(4, 1), 2);
        x.put(0, 2, 8);
        // 8 high: sown on 2 it is 0 high and gone; on 4 it is 9 and then 1; on 6 also 1
        Due.is("sow(4, 0)", x.sow(4, 0), 2);
        Due.is("sow(4, 1)", x.sow(4, 1), 0);
        Due.is("sow(2, 0) in years that bury none", x.sow(2, 0), -1);
        Due.is("sow(2, 1) in years that bury none", x.sow(2, 1), 0);
        Due.is("sow(0, 0)", x.sow(0, 0), -1);
        Due.is("parish(1) behind it", x.parish(1), 0);
        // on clover already: that yard is none to be sown, and the sowing counts as it stands
        Due.clover(x, 2);
        Due.is("sow(4, 0) with clover", x.sow(4, 0), -1);
        Due.is("sow(4, 1) with clover", x.sow(4, 1), 0);
        // of like ones the first: a long dune comes upon any of its yards
        DunesWalked y = new DunesWalked();
        Due.dune(y, 0, 0, 10, 3, 8);
        Due.houses(y, 14);
        Due.is("sow(3, 0)", y.sow(3, 0), 10);
        Due.is("sow(3, 1)", y.sow(3, 1), 0);
        // fewer counts before none: the least, not the first that is less
        DunesWalked z = new DunesWalked();
        Due.dune(z, 0, 0, 0, 1, 6);
        Due.houses(z, 2, 4, 6, 8);
        Due.is("sow(20, 0)", z.sow(20, 0), 2);
        Due.is("sow(20, 1)", z.sow(20, 1), 0);
        z.put(0, 2, 7);
        Due.is("sow(20, 0)", z.sow(20, 0), 2);
        z.put(0, 2, 8);
        // at 2 it is 8 less 8, which is none; at 4 it would be 9 less 8
        Due.is("sow(20, 1)", z.sow(20, 1), 0);
        // the ends: sown on yard 0, and on 39
        DunesWalked v = new DunesWalked();
        Due.law(v, "walks 0;grows 0-9*clover;needs 1;");
        Due.dune(v, 0, 0, 0, 3, 5);
        Due.houses(v, 0);
        Due.is("sow(2, 0) on yard 0", v.sow(2, 0), 0);
        v.yard(0, 0, 0);
        Due.houses(v, 39);
        v.put(0, 0, 39);
        v.put(0, 1, 1);
        Due.is("sow(2, 0) on yard 39", v.sow(2, 0), 39);
        Due.is("sow(2, 1) on yard 39", v.sow(2, 1), 0);
        // a blond one is slower when it is high, and lies the longer on a house: sowing makes it go on
        DunesWalked w = new DunesWalked();
        Due.dune(w, 2, 0, 9, 3, 58);
        Due.houses(w, 10, 39);
        int asItIs = w.run(3, 2);
        Due.is("run(3, 2)", asItIs, 3);
        Due.is("sow(3, 0)", w.sow(3, 0), 8);
        w.yard(8, 1, 1);
        Due.is("run(3, 2) when it is sown", w.run(3, 2), 1);
        w.yard(8, 1, 0);
        Due.is("sow(3, 1)", w.sow(3, 1), 1);
    }

    private static void move() {
        DunesWalked x = new DunesWalked();
        Due.is("move(5, 0) without houses", x.move(5, 0), -1);
        Due.is("move(5, 1) without houses", x.move(5, 1), 0);
        Due.dune(x, 5, 0, 11, 2, 99);
        Due.dune(x, 0, 0, 0, 1, 9);
        Due.houses(x, 4, 11);
        // 11 lies under sand for five years of five, 4 for one
        Due.is("move(5, 0)", x.move(5, 0), 1100);
        Due.is("move(5, 1)", x.move(5, 1), 1);
        Due.houses(x, 10, 0, 1);
        Due.is("move(5, 0) of like ones", x.move(5, 0), 1003);
        Due.is("move(5, 1) of like ones", x.move(5, 1), 6);
        Due.is("move(1, 0)", x.move(1, 0), 1003);
        Due.is("move(0, 0)", x.move(0, 0), -1);
        Due.is("move(0, 1)", x.move(0, 1), 0);
        Due.is("parish(0) behind it", x.parish(0), 1L | 2L | 16L | 1024L | 2048L);
        // the ends: from yard 0, and to it
        DunesWalked z = new DunesWalked();
        Due.houses(z, 0);
        Due.dune(z, 5, 0, 0, 1, 9);
        Due.is("move(5, 0) from yard 0", z.move(5, 0), 1);
        Due.is("move(5, 1) from yard 0", z.move(5, 1), 0);
        z.yard(0, 0, 0);
        z.put(0, 0, 39);
        z.put(0, 1, 9);
        Due.houses(z, 39, 5);
        Due.is("move(5, 0) from yard 39", z.move(5, 0), 3900);
        // a yard that is sanded less is better than none that is free
        DunesWalked y = new DunesWalked();
        for (int i = 0; i < 40; i++) {
            y.yard(i, 0, 1);
        }
        Due.dune(y, 5, 0, 20, 1, 50);
        Due.is("move(5, 0) with houses on all", y.move(5, 0), -1);
        Due.is("move(5, 1) with houses on all", y.move(5, 1), 5);
        y.yard(39, 0, 0);
        Due.is("move(5, 0) with one yard free", y.move(5, 0), 2039);
        Due.is("move(5, 1) with one yard free", y.move(5, 1), 0);
        Due.dune(y, 5, 0, 39, 1, 50);
        Due.is("move(5, 0) with that one sanded", y.move(5, 0), -1);
        Due.is("move(20, 1)", y.move(20, 1), 20);
    }

    private static void hold() {
        DunesWalked x = new DunesWalked();
        Due.is("hold(5, 0) of none", x.hold(5, 0), -1);
        Due.is("hold(5, 1) of none", x.hold(5, 1), 0);
        Due.houses(x, 5, 6, 20);
        Due.dune(x, 5, 0, 6, 2, 50);
        Due.dune(x, 5, 0, 20, 1, 50);
        Due.is("hold(5, 0)", x.hold(5, 0), 0);
        Due.is("hold(5, 1)", x.hold(5, 1), 5);
        x.put(0, 1, 1);
        Due.is("hold(5, 0) of like ones", x.hold(5, 0), 0);
        x.put(0, 0, 7);
        Due.is("hold(5, 0)", x.hold(5, 0), 1);
        Due.is("hold(5, 1)", x.hold(5, 1), 0);
        Due.is("hold(0, 0)", x.hold(0, 0), -1);
        Due.is("hold(40, 1)", x.hold(40, 1), 0);
        Due.is("count(1) behind it", x.count(1), 2);
        // without the one that would take it up, the other walks on over the house
        DunesWalked y = new DunesWalked();
        Due.houses(y, 12);
        Due.dune(y, 0, 0, 8, 1, 20);
        Due.dune(y, 5, 0, 10, 1, 30);
        Due.is("run(10, 2)", y.run(10, 2), 0);
        Due.is("hold(10, 0) would be worse", y.hold(10, 0), -1);
        Due.is("hold(10, 1) as so", y.hold(10, 1), 0);
        // a dune that is gone is none to be without
        DunesWalked z = new DunesWalked();
        Due.dune(z, 5, 0, 3, 1, 0);
        Due.dune(z, 5, 0, 9, 1, 9);
        z.year();
        Due.houses(z, 3, 9);
        Due.is("hold(2, 0)", z.hold(2, 0), 1);
        Due.is("hold(2, 1)", z.hold(2, 1), 0);
    }

    private static void share() {
        DunesWalked x = new DunesWalked();
        Due.is("share(0, 0) without houses", x.share(0, 0), DunesWalked.NO);
        Due.houses(x, 0, 1, 2, 3, 20, 21);
        Due.dune(x, 0, 0, 1, 2, 60);
        long[][] due = {{1, 3}, {1, 3}, {0, 1}, {0, 1}};
        for (int n = 0; n < due.length; n++) {
            Due.is("share(" + n + ", 0)", x.share(n, 0), due[n][0]);
            Due.is("share(" + n + ", 1)", x.share(n, 1), due[n][1]);
        }
        x.put(0, 1, 4);
        x.put(0, 0, 3);
        Due.is("share(0, 0)", x.share(0, 0), 2);
        Due.is("share(0, 1)", x.share(0, 1), 3);
        Due.houses(x, 39);
        Due.is("share(0, 0)", x.share(0, 0), 4);
        Due.is("share(0, 1)", x.share(0, 1), 7);
        Due.is("share(40, 0)", x.share(40, 0), 1);
        Due.is("share(40, 1)", x.share(40, 1), 7);
        for (int y : new int[] {0, 1, 2, 3, 20, 21}) {
            x.yard(y, 0, 0);
        }
        Due.is("share(40, 0) of one", x.share(40, 0), 1);
        Due.is("share(40, 1) of one", x.share(40, 1), 1);
        for (int bad : new int[] {-1, 41, MIN, MAX}) {
            Due.is("share(" + bad + ", 0)", x.share(bad, 0), DunesWalked.NO);
        }
        for (int bad : new int[] {-1, 2, MIN, MAX}) {
            Due.is("share(0, " + bad + ")", x.share(0, bad), DunesWalked.NO);
        }
    }

    private static void refusals() {
        DunesWalked x = new DunesWalked();
        Due.dune(x, 0, 0, 1, 2, 60);
        for (int n : new int[] {-1, 21, 41, MIN, MAX}) {
            Due.is("sow(" + n + ", 0)", x.sow(n, 0), -2);
            Due.is("move(" + n + ", 0)", x.move(n, 0), -2);
            Due.is("hold(" + n + ", 0)", x.hold(n, 0), n == 21 ? -1 : -2);
        }
        for (int what : new int[] {-1, 2, MIN, MAX}) {
            Due.is("sow(5, " + what + ")", x.sow(5, what), -2);
            Due.is("move(5, " + what + ")", x.move(5, what), -2);
            Due.is("hold(5, " + what + ")", x.hold(5, what), -2);
        }
        Due.is("sow(20, 0)", x.sow(20, 0), -1);
        Due.is("move(20, 0)", x.move(20, 0), -1);
        Due.is("hold(40, 0)", x.hold(40, 0), -1);
    }
}
