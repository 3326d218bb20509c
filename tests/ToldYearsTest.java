/** Promises 22 to 27: told years of a dune. */
public final class ToldYearsTest {
    private static final int MIN = Integer.MIN_VALUE, MAX = Integer.MAX_VALUE;

    public static void main(String[] args) {
        judge();
        kinds();
        states();
        whose();
        laws();
        film();
        refusals();
        Due.end();
    }

    private static void judge() {
        DunesWalked x = new DunesWalked();
        Due.dune(x, 0, 0, 3, 1, 30);
        Due.sheet(x, 0, 5, 7, 9);
        Due.is("judge of what is so", x.judge(0, 0), -1);
        for (int i = 0; i < 3; i++) {
            x.cell(0, i, 6);
            Due.is("judge of number " + i, x.judge(0, 0), i);
            x.cell(0, i, 5 + 2 * i);
        }
        x.cell(0, 1, 0);
        x.cell(0, 2, 0);
        Due.is("judge: the first of two", x.judge(0, 0), 1);
        Due.sheet(x, 1);
        Due.is("judge of an empty sheet", x.judge(1, 0), -1);
        // -1: it is gone, and stays so
        Due.dune(x, 5, 0, 20, 1, 0);
        Due.sheet(x, 1, -1, -1, -1);
        Due.is("judge of one that is gone then", x.judge(1, 1), -1);
        Due.is("judge of one that is not", x.judge(1, 0), 0);
        x.cell(1, 2, 20);
        Due.is("judge of one that is gone then", x.judge(1, 1), 2);
        // a sheet of any sort; -1 of bytes and of shorts is -1
        for (int sort = 0; sort < 3; sort++) {
            x.sheet(2, sort, 2);
            x.cell(2, 0, -1);
            x.cell(2, 1, -1);
            Due.is("judge by sort " + sort, x.judge(2, 1), -1);
            x.cell(2, 0, 5);
            x.cell(2, 1, 7);
            Due.is("judge by sort " + sort, x.judge(2, 0), -1);
            x.cell(2, 1, 256 + 7);
            Due.is("judge by sort " + sort + ", cut", x.judge(2, 0), sort == 0 ? -1 : 1);
        }
        x.sheet(3, 0, 20);
        Due.is("judge of twenty", x.judge(3, 0), 0);
        x.sheet(3, 0, 21);
        Due.is("judge of more than twenty", x.judge(3, 0), -2);
        Due.is("in thought alone", x.told(0, 0), 3);
    }

    private static void kinds() {
        DunesWalked x = new DunesWalked();
        Due.dune(x, 0, 1, 3, 1, 30);
        // by the first text: dune 2 a year, walked 1, blond 3, abels 1, 1, gale 6, still 0
        int[][] told = {{5, 7}, {4, 5}, {6, 9}, {4, 4}, {9, 15}, {3, 3}, {8, 8}, {4}, {}};
        int[] kinds = {1, 2, 4, 8, 16, 32, 0, 2 + 8, 63};
        // MORE matters to none of a dune's walks, its height is enough
        for (int i = 0; i < told.length; i++) {
            Due.sheet(x, 0, told[i]);
            Due.is("kinds(0, 0, 0) of sheet " + i, x.kinds(0, 0, 0), kinds[i]);
            Due.is("kinds(0, 0, 1) of sheet " + i, x.kinds(0, 0, 1), i == 0 || i == 8 ? 1023 : 0);
        }
        DunesWalked y = new DunesWalked();
        Due.dune(y, 1, 7, 3, 1, 30);
        int[] more = {1, 2, 1020};
        for (int i = 0; i < more.length; i++) {
            Due.sheet(y, 0, 3 + i, 3 + 2 * i);
            Due.is("kinds(0, 0, 1) by " + i, y.kinds(0, 0, 1), more[i]);
        }
        Due.is("its kind is as it was", y.told(0, 3), 1);
        Due.is("its MORE is as it was", y.told(0, 4), 7);
        for (int sort : new int[] {-1, 2, MIN, MAX}) {
            Due.is("kinds(0, 0, " + sort + ")", y.kinds(0, 0, sort), -7);
        }
        // by what they need: a blond one lives on what is left
        DunesWalked z = new DunesWalked();
        Due.dune(z, 2, 9, 3, 1, 5);
        Due.sheet(z, 0, 6);
        Due.is("kinds(0, 0, 1) by needs", z.kinds(0, 0, 1), 63);
        Due.is("kinds(0, 0, 0) by needs", z.kinds(0, 0, 0), 0);
        Due.sheet(z, 0, -1);
        Due.is("kinds(0, 0, 1) by needs", z.kinds(0, 0, 1), 1023 - 63);
        Due.is("kinds(0, 0, 0) by needs", z.kinds(0, 0, 0), 4 + 16);
    }

    private static void states() {
        DunesWalked x = new DunesWalked();
        Due.dune(x, 2, 0, 3, 2, 60);
        Due.clover(x, 9);
        // 60 high it walks 1
        Due.sheet(x, 0, 4, 5);
        Due.is("states FRONT, how many", x.states(0, 0, 0, 0), 1);
        Due.is("states FRONT, the least", x.states(0, 0, 0, 1), 3);
        Due.is("states LONG, how many", x.states(0, 0, 1, 0), 9);
        Due.is("states LONG, the least", x.states(0, 0, 1, 1), 1);
        Due.is("states HIGH, how many", x.states(0, 0, 2, 0), 49);
        Due.is("states HIGH, the least", x.states(0, 0, 2, 1), 51);
        Due.sheet(x, 0, 39, 39);
        Due.is("states FRONT at the end, how many", x.states(0, 0, 0, 0), 2);
        Due.is("states FRONT at the end, the least", x.states(0, 0, 0, 1), 38);
        Due.is("states LONG of none, how many", x.states(0, 0, 1, 0), 0);
        Due.is("states LONG of none, the least", x.states(0, 0, 1, 1), -1);
        Due.is("states HIGH of none, the least", x.states(0, 0, 2, 1), -1);
        Due.sheet(x, 0);
        int[] all = {40, 9, 100};
        int[] least = {0, 1, 0};
        for (int sort = 0; sort < 3; sort++) {
            Due.is("states of all, how many", x.states(0, 0, sort, 0), all[sort]);
            Due.is("states of all, the least", x.states(0, 0, sort, 1), least[sort]);
        }
        Due.sheet(x, 0, -1);
        Due.is("states HIGH of gone, how many", x.states(0, 0, 2, 0), 0);
        for (int i = 0; i < 3; i++) {
            Due.is("it is as it was", x.told(0, i), new int[] {3, 2, 60}[i]);
        }
        // by LONG: a dune of 4 and more lies on clover at its tail, and dies of it
        DunesWalked y = new DunesWalked();
        Due.dune(y, 0, 0, 10, 1, 7);
        Due.clover(y, 9);
        Due.sheet(y, 0, -1);
        Due.is("states LONG of gone, how many", y.states(0, 0, 1, 0), 6);
        Due.is("states LONG of gone, the least", y.states(0, 0, 1, 1), 4);
        for (int bad : new int[] {-1, 3, MIN, MAX}) {
            Due.is("states sort " + bad, y.states(0, 0, bad, 0), -7);
        }
        for (int bad : new int[] {-1, 2, MIN, MAX}) {
            Due.is("states what " + bad, y.states(0, 0, 0, bad), -7);
        }
    }

    private static void whose() {
        DunesWalked x = new DunesWalked();
        Due.sheet(x, 0, 5, 7);
        Due.is("whose of no dunes", x.whose(0), 0);
        Due.dune(x, 0, 0, 3, 1, 30);
        Due.dune(x, 5, 0, 5, 1, 0);
        Due.dune(x, 0, 0, 9, 1, 30);
        Due.dune(x, 2, 9, 3, 1, 90);
        Due.is("whose", x.whose(0), 1);
        Due.sheet(x, 0, -1, -1);
        Due.is("whose of gone then", x.whose(0), 2);
        Due.sheet(x, 0);
        Due.is("whose of all", x.whose(0), 15);
        Due.is("year()", x.year(), 2);
        Due.is("whose of all that are not gone", x.whose(0), 13);
        Due.sheet(x, 0, -1);
        Due.is("whose: gone ones are none", x.whose(0), 0);
    }

    private static void laws() {
        DunesWalked x = new DunesWalked();
        Due.dune(x, 0, 0, 3, 1, 30);
        Due.law(x, "walks 3;grows 0;needs 0;");
        Due.law(x, "walks 2 + year;grows 0;needs 0;");
        Due.law(x, "walks 9;grows 0;needs 31;");
        Due.sheet(x, 0, 5);
        Due.is("laws of one year", x.laws(0, 0), 1 + 4);
        Due.sheet(x, 0, 5, 8);
        Due.is("laws of two years", x.laws(0, 0), 4);
        Due.sheet(x, 0, -1);
        Due.is("laws of gone", x.laws(0, 0), 8);
        Due.sheet(x, 0, 10);
        Due.is("laws of none", x.laws(0, 0), 0);
        Due.sheet(x, 0);
        Due.is("laws of all", x.laws(0, 0), 15);
        Due.is("the law is as it was", x.count(6), 3);
    }

    private static void film() {
        DunesWalked x = new DunesWalked();
        Due.dune(x, 0, 0, 3, 1, 30);
        Due.dune(x, 5, 0, 20, 1, 0);
        Due.dune(x, 5, 0, 31, 1, 1);
        Due.is("film(0, 0, 4)", x.film(0, 0, 4), 4);
        Due.is("judge", x.judge(0, 0), -1);
        Due.is("film is of bytes, n of them", x.copy(0, 3, 0, 3, 1), 1);
        Due.is("film is of bytes, n of them", x.copy(0, 4, 0, 4, 1), -12);
        Due.is("it takes the place of a missing one", x.whose(0), 1);
        Due.is("film(1, 1, 20)", x.film(1, 1, 20), 20);
        Due.is("whose", x.whose(1), 2);
        Due.sheet(x, 2, 1, 2, 3, 4, 5);
        Due.is("film(2, 2, 1)", x.film(2, 2, 1), 1);
        Due.is("whose", x.whose(2), 4);
        Due.is("it is of bytes: unlike ints", x.dunesBy(2, 2, 0, 0), -13);
        Due.is("it is of bytes", x.dunesBy(2, 0, 0, 0), 0);
        Due.is("film(2, 2, 0)", x.film(2, 2, 0), 0);
        Due.is("an empty row", x.cell(2, 0, 1), -12);
        Due.is("in thought alone", x.count(2), 0);
        Due.is("film(3, 6, 99)", x.film(3, 6, 99), -5);
        for (int n : new int[] {-1, 21, MIN, MAX}) {
            Due.is("film(3, 0, " + n + ")", x.film(3, 0, n), -7);
        }
        Due.is("no film behind refusals", x.whose(3), -11);
        for (int s : new int[] {-1, 4, MIN, MAX}) {
            Due.is("film(" + s + ", 9, 99)", x.film(s, 9, 99), -2);
        }
        Due.is("year()", x.year(), 2);
        Due.is("film of a gone one", x.film(3, 1, 5), -5);
    }

    private static void refusals() {
        DunesWalked x = new DunesWalked();
        Due.dune(x, 0, 0, 3, 1, 30);
        x.sheet(1, 1, 21);
        x.sheet(2, 1, 20);
        int[] sheets = {-1, 4, MIN, MAX, 0, 1, 2};
        int[] due = {-2, -2, -2, -2, -11, -2, -5};
        for (int i = 0; i < sheets.length; i++) {
            int s = sheets[i];
            for (int d : new int[] {-1, 1, 6, MIN, MAX}) {
                Due.is("judge(" + s + ", " + d + ")", x.judge(s, d), due[i]);
                Due.is("kinds(" + s + ", " + d + ", 7)", x.kinds(s, d, 7), due[i]);
                Due.is("states(" + s + ", " + d + ", 7, 7)", x.states(s, d, 7, 7), due[i]);
                Due.is("laws(" + s + ", " + d + ")", x.laws(s, d), due[i]);
            }
            Due.is("whose(" + s + ")", x.whose(s), due[i] == -5 ? 0 : due[i]);
        }
        Due.law(x, "walks 0;grows 0;needs 90;");
        x.year();
        Due.is("judge of a gone one", x.judge(2, 0), -5);
        Due.is("kinds of a gone one", x.kinds(2, 0, 0), -5);
        Due.is("states of a gone one", x.states(2, 0, 0, 0), -5);
        Due.is("laws of a gone one", x.laws(2, 0), -5);
    }
}
