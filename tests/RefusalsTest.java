import java.util.function.ToLongFunction;

/** The REFUSALS: what is refused, and what is asked, leaves all that can be seen as it was. */
public final class RefusalsTest {
    private static final long NO = -4611686018427387904L;

    public static void main(String[] args) {
        parishIsLeft();
        tapeAndTextsAreLeft();
        dunesAreLeft();
        lastYearIsLeft();
        noImageIsLeft();
        sheetsAreLeft();
        fullIsLeft();
        askedIsLeft();
        askedAndRefusedIsLeft();
        answersBehindRefusals();
        Due.end();
    }

    /** Dune 0 walks, 1 is GONE, 2 is still; sheets of each sort and a missing one; a tape, texts, an older image. */
    private static DunesWalked parish() {
        DunesWalked x = new DunesWalked();
        Due.houses(x, 0, 7, 12, 20, 39);
        Due.clover(x, 9, 22);
        Due.dune(x, 1, 4, 5, 2, 40);
        Due.dune(x, 0, 0, 30, 1, 0);
        Due.law(x, "walks 3;grows 2-5*clover;needs 1+9*(at=33);");
        x.image();
        Due.is("year()", x.year(), 2);
        x.yard(3, 0, 1);
        Due.dune(x, 5, 0, 27, 3, 99);
        Due.feed(x, "walks 4;grows at;needs high<9;");
        x.text();
        Due.feed(x, "walks 1;grows");
        x.film(0, 0, 4);
        row(x, 1, 1, 3, 4, 5);
        row(x, 2, 2, 11, 12010, 60, 12);
        return x;
    }

    private static void row(DunesWalked x, int s, int sort, int... numbers) {
        x.sheet(s, sort, numbers.length);
        for (int i = 0; i < numbers.length; i++) {
            x.cell(s, i, numbers[i]);
        }
    }

    /** Six dunes, one of them GONE and the last one still; six texts; a full tape. */
    private static DunesWalked full() {
        DunesWalked x = new DunesWalked();
        for (int t = 1; t < 6; t++) {
            Due.feed(x, "walks " + t + ";grows 0;needs " + t + ";");
            x.text();
        }
        for (int d = 0; d < 6; d++) {
            Due.dune(x, d, 0, 5 * d, 1, d == 0 ? 0 : 50);
        }
        x.year();
        x.force(3);
        Due.feed(x, "walks 9;grows 9;needs 9;");
        while (x.count(7) < 160) {
            x.feed(1, 32, 0, 0, 0, 0);
        }
        return x;
    }

    private static void parishIsLeft() {
        Due.sentence("REFUSALS change nothing: yard, force");
        Seen seen = new Seen(RefusalsTest::parish);
        seen.stays("yard(-1, 0, 1)", x -> x.yard(-1, 0, 1), -5);
        seen.stays("yard(40, 1, 1)", x -> x.yard(40, 1, 1), -5);
        seen.stays("yard(1, 2, 1)", x -> x.yard(1, 2, 1), -7);
        seen.stays("yard(1, -1, 1)", x -> x.yard(1, -1, 1), -7);
        seen.stays("yard(0, 0, 2)", x -> x.yard(0, 0, 2), -7);
        seen.stays("yard(0, 0, -1)", x -> x.yard(0, 0, -1), -7);
        seen.stays("yard(1, 1, 2)", x -> x.yard(1, 1, 2), -7);
        seen.stays("force(-1)", x -> x.force(-1), -2);
        seen.stays("force(3)", x -> x.force(3), -2);
    }

    private static void tapeAndTextsAreLeft() {
        Due.sentence("REFUSALS change nothing: feed");
        Seen seen = new Seen(RefusalsTest::parish);
        seen.stays("feed of 0", x -> x.feed(0, 32, 32, 32, 32, 32), -2);
        seen.stays("feed of 6", x -> x.feed(6, 32, 32, 32, 32, 32), -2);
        seen.stays("feed of 256", x -> x.feed(5, 256, 32, 32, 32, 32), -2);
        seen.stays("feed of 256 at last", x -> x.feed(5, 32, 32, 32, 32, 256), -2);
        seen.stays("feed of -1 behind the first", x -> x.feed(1, 32, -1, 32, 32, 32), -2);
    }

    private static void dunesAreLeft() {
        Due.sentence("REFUSALS change nothing: dune, put");
        Seen seen = new Seen(RefusalsTest::parish);
        seen.stays("dune(60, 1009)", x -> x.dune(60, 1009), -2);
        seen.stays("dune(-1, 1009)", x -> x.dune(-1, 1009), -2);
        seen.stays("dune(0, 9)", x -> x.dune(0, 9), -2);
        seen.stays("dune(0, 1100)", x -> x.dune(0, 1100), -2);
        seen.stays("dune(0, 401009)", x -> x.dune(0, 401009), -2);
        seen.stays("dune(0, -1)", x -> x.dune(0, -1), -2);
        seen.stays("put(1, 0, 5)", x -> x.put(1, 0, 5), -5);
        seen.stays("put(3, 0, 5)", x -> x.put(3, 0, 5), -5);
        seen.stays("put(-1, 0, 5)", x -> x.put(-1, 0, 5), -5);
        seen.stays("put(0, 3, 5)", x -> x.put(0, 3, 5), -7);
        seen.stays("put(0, 4, 5)", x -> x.put(0, 4, 5), -7);
        seen.stays("put(0, -1, 5)", x -> x.put(0, -1, 5), -7);
        seen.stays("put(0, 0, 40)", x -> x.put(0, 0, 40), -7);
        seen.stays("put(0, 1, 0)", x -> x.put(0, 1, 0), -7);
        seen.stays("put(0, 1, 10)", x -> x.put(0, 1, 10), -7);
        seen.stays("put(0, 2, 100)", x -> x.put(0, 2, 100), -7);
        seen.stays("put(0, 2, -1)", x -> x.put(0, 2, -1), -7);
    }

    private static void lastYearIsLeft() {
        Due.sentence("REFUSALS change nothing: year, YEAR being 999");
        Seen seen = new Seen(() -> {
            DunesWalked x = new DunesWalked();
            for (int i = 0; i < 999; i++) {
                x.year();
            }
            Due.dune(x, 0, 0, 5, 1, 0);
            Due.dune(x, 0, 0, 7, 1, 30);
            return x;
        });
        seen.stays("year()", x -> x.year(), -3);
    }

    private static void noImageIsLeft() {
        Due.sentence("REFUSALS change nothing: back, there being no image");
        Seen seen = new Seen(() -> {
            DunesWalked x = new DunesWalked();
            Due.houses(x, 3);
            Due.dune(x, 0, 0, 5, 1, 30);
            x.year();
            return x;
        });
        seen.stays("back()", x -> x.back(), -3);
    }

    private static void sheetsAreLeft() {
        Due.sentence("REFUSALS change nothing: film, sheet, cell, copy, dunesBy");
        Seen seen = new Seen(RefusalsTest::parish);
        seen.stays("film(4, 0, 3)", x -> x.film(4, 0, 3), -2);
        seen.stays("film(1, 1, 3)", x -> x.film(1, 1, 3), -5);
        seen.stays("film(1, 3, 3)", x -> x.film(1, 3, 3), -5);
        seen.stays("film(1, 0, 21)", x -> x.film(1, 0, 21), -7);
        seen.stays("film(3, 0, -1)", x -> x.film(3, 0, -1), -7);
        seen.stays("sheet(4, 0, 1)", x -> x.sheet(4, 0, 1), -2);
        seen.stays("sheet(1, 3, 1)", x -> x.sheet(1, 3, 1), -2);
        seen.stays("sheet(1, -2, 1)", x -> x.sheet(1, -2, 1), -2);
        seen.stays("sheet(1, 1, 41)", x -> x.sheet(1, 1, 41), -2);
        seen.stays("sheet(3, 0, 41)", x -> x.sheet(3, 0, 41), -2);
        seen.stays("sheet(1, 1, -1)", x -> x.sheet(1, 1, -1), -14);
        seen.stays("sheet(3, 0, -1)", x -> x.sheet(3, 0, -1), -14);
        seen.stays("cell(4, 0, 1)", x -> x.cell(4, 0, 1), -2);
        seen.stays("cell(3, 0, 1)", x -> x.cell(3, 0, 1), -11);
        seen.stays("cell(1, 3, 1)", x -> x.cell(1, 3, 1), -12);
        seen.stays("cell(1, -1, 1)", x -> x.cell(1, -1, 1), -12);
        seen.stays("copy(4, 0, 1, 0, 1)", x -> x.copy(4, 0, 1, 0, 1), -2);
        seen.stays("copy(1, 0, 4, 0, 1)", x -> x.copy(1, 0, 4, 0, 1), -2);
        seen.stays("copy(1, 0, 3, 0, 1)", x -> x.copy(1, 0, 3, 0, 1), -11);
        seen.stays("copy(1, 0, 2, 0, 1)", x -> x.copy(1, 0, 2, 0, 1), -13);
        seen.stays("copy(1, 0, 1, 1, 3)", x -> x.copy(1, 0, 1, 1, 3), -12);
        seen.stays("copy(2, 2, 2, 0, 3)", x -> x.copy(2, 2, 2, 0, 3), -12);
        seen.stays("copy(2, 2, 2, 0, -1)", x -> x.copy(2, 2, 2, 0, -1), -12);
        seen.stays("dunesBy(4, 2, 0, 1)", x -> x.dunesBy(4, 2, 0, 1), -2);
        seen.stays("dunesBy(2, 3, 0, 1)", x -> x.dunesBy(2, 3, 0, 1), -2);
        seen.stays("dunesBy(2, 2, 0, 7)", x -> x.dunesBy(2, 2, 0, 7), -2);
        seen.stays("dunesBy(3, 2, 0, 1)", x -> x.dunesBy(3, 2, 0, 1), -11);
        seen.stays("dunesBy(2, 1, 0, 1)", x -> x.dunesBy(2, 1, 0, 1), -13);
        seen.stays("dunesBy(2, 2, 3, 1)", x -> x.dunesBy(2, 2, 3, 1), -12);
        seen.stays("dunesBy(2, 2, -1, 1)", x -> x.dunesBy(2, 2, -1, 1), -12);
        seen.stays("dunesBy(2, 2, 2, 1), left out", x -> x.dunesBy(2, 2, 2, 1), 0);
    }

    private static void fullIsLeft() {
        Due.sentence("REFUSALS change nothing: FULL (THE TAPE stays)");
        Seen seen = new Seen(RefusalsTest::full);
        seen.stays("feed", x -> x.feed(1, 32, 0, 0, 0, 0), -4);
        seen.stays("feed of 5", x -> x.feed(5, 1, 2, 3, 4, 5), -4);
        seen.stays("text()", x -> x.text(), -4);
        seen.stays("dune", x -> x.dune(0, 1009), -4);
        Seen nearly = new Seen(() -> {
            DunesWalked x = new DunesWalked();
            Due.feed(x, "walks 9;grows 9;needs 9;");
            while (x.count(7) < 157) {
                x.feed(1, 32, 0, 0, 0, 0);
            }
            return x;
        });
        nearly.stays("feed of 4 behind 157", x -> x.feed(4, 1, 2, 3, 4, 5), -4);
        nearly.stays("feed of 5 behind 157", x -> x.feed(5, 1, 2, 3, 4, 5), -4);
    }

    private static void askedIsLeft() {
        Due.sentence("What is asked changes nothing");
        Seen seen = new Seen(RefusalsTest::parish);
        for (int what = 0; what < 3; what++) {
            int w = what;
            seen.staysBehind("count", x -> x.count(w + 3));
            seen.staysBehind("parish", x -> x.parish(w));
            seen.staysBehind("asks", x -> x.asks(w, 0));
            seen.staysBehind("told", x -> x.told(0, w + 5));
            seen.staysBehind("run", x -> x.run(40, w));
            seen.staysBehind("comes", x -> x.comes(39, w));
            seen.staysBehind("states", x -> x.states(0, 0, w, 0));
            seen.staysBehind("taken", x -> x.taken(w, w));
        }
        for (int what = 0; what < 2; what++) {
            int w = what;
            seen.staysBehind("first", x -> x.first(w));
            seen.staysBehind("sow", x -> x.sow(20, w));
            seen.staysBehind("move", x -> x.move(20, w));
            seen.staysBehind("hold", x -> x.hold(40, w));
            seen.staysBehind("share", x -> x.share(40, w));
            seen.staysBehind("kinds", x -> x.kinds(0, 0, w));
            seen.staysBehind("drawn", x -> x.drawn(17, w));
            seen.staysBehind("odds", x -> x.odds(17, 40, 1, w));
        }
        seen.staysBehind("grows", x -> x.grows(0));
        seen.staysBehind("run", x -> x.run(40, 10));
        seen.staysBehind("ends", x -> x.ends(0));
        seen.staysBehind("judge", x -> x.judge(0, 0));
        seen.staysBehind("whose", x -> x.whose(0));
        seen.staysBehind("laws", x -> x.laws(0, 0));
        seen.staysBehind("taken of a height", x -> x.taken(6, 6));
    }

    private static void askedAndRefusedIsLeft() {
        Due.sentence("REFUSALS change nothing: what is asked");
        Seen seen = new Seen(RefusalsTest::parish);
        seen.stays("count(8)", x -> x.count(8), -2);
        seen.stays("parish(4)", x -> x.parish(4), NO);
        seen.stays("asks(3, 0)", x -> x.asks(3, 0), -1000);
        seen.stays("told(1, 0)", x -> x.told(1, 0), -5);
        seen.stays("told(0, 9)", x -> x.told(0, 9), -7);
        seen.stays("grows(1)", x -> x.grows(1), -1000);
        seen.stays("run(41, 0)", x -> x.run(41, 0), -2);
        seen.stays("run(5, 3)", x -> x.run(5, 3), -2);
        seen.stays("comes(40, 0)", x -> x.comes(40, 0), -5);
        seen.stays("comes(0, 3)", x -> x.comes(0, 3), -7);
        seen.stays("ends(1)", x -> x.ends(1), -5);
        seen.stays("first(2)", x -> x.first(2), -2);
        seen.stays("sow(21, 0)", x -> x.sow(21, 0), -2);
        seen.stays("move(21, 0)", x -> x.move(21, 0), -2);
        seen.stays("hold(41, 0)", x -> x.hold(41, 0), -2);
        seen.stays("share(41, 0)", x -> x.share(41, 0), NO);
        seen.stays("judge(3, 0)", x -> x.judge(3, 0), -11);
        seen.stays("judge(0, 1)", x -> x.judge(0, 1), -5);
        seen.stays("kinds(0, 0, 2)", x -> x.kinds(0, 0, 2), -7);
        seen.stays("states(0, 0, 3, 0)", x -> x.states(0, 0, 3, 0), -7);
        seen.stays("whose(3)", x -> x.whose(3), -11);
        seen.stays("laws(0, 1)", x -> x.laws(0, 1), -5);
        seen.stays("drawn(100000, 0)", x -> x.drawn(100000, 0), -2);
        seen.stays("odds(0, 41, 0, 0)", x -> x.odds(0, 41, 0, 0), NO);
        seen.stays("taken(12, 0)", x -> x.taken(12, 0), -12);
        seen.stays("taken(3, 0)", x -> x.taken(3, 0), -11);
        seen.stays("taken(0, 2)", x -> x.taken(0, 2), -13);
    }

    private static void due(String call, ToLongFunction<DunesWalked> asked, long answer,
            ToLongFunction<DunesWalked> bad, long refusal) {
        Due.is(call, asked.applyAsLong(parish()), answer);
        Due.is(call + ", a number not as told", bad.applyAsLong(parish()), refusal);
    }

    private static void answersBehindRefusals() {
        Due.sentence("(a -1 that is an answer comes behind the refusal of a number)");
        due("comes(1, 0)", x -> x.comes(1, 0), -1, x -> x.comes(1, 3), -7);
        due("comes(1, 2)", x -> x.comes(1, 2), -1, x -> x.comes(40, 2), -5);
        due("first(0)", x -> new DunesWalked().first(0), -1, x -> new DunesWalked().first(2), -2);
        due("sow(0, 0)", x -> x.sow(0, 0), -1, x -> x.sow(-1, 0), -2);
        due("sow(0, 0)", x -> x.sow(0, 0), -1, x -> x.sow(0, 2), -2);
        due("move(0, 0)", x -> x.move(0, 0), -1, x -> x.move(0, -1), -2);
        due("move(0, 0)", x -> x.move(0, 0), -1, x -> x.move(21, 0), -2);
        due("hold(0, 0)", x -> x.hold(0, 0), -1, x -> x.hold(0, 2), -2);
        due("hold(0, 0)", x -> x.hold(0, 0), -1, x -> x.hold(41, 0), -2);
        due("ends(2)", x -> x.ends(2), -1, x -> x.ends(1), -5);
        due("judge(0, 0)", x -> x.judge(0, 0), -1, x -> x.judge(0, 1), -5);
        due("states(0, 2, 2, 1)", x -> x.states(0, 2, 2, 1), -1, x -> x.states(0, 2, 2, 2), -7);
        due("states(0, 2, 2, 1)", x -> x.states(0, 2, 2, 1), -1, x -> x.states(0, 1, 2, 1), -5);
        DunesWalked x = Due.one("walks 0;grows 0;needs 99;", 0, 0, 5, 1, 50);
        Due.is("run(40, 10)", x.run(40, 10), -1);
        Due.is("run(41, 10)", x.run(41, 10), -2);
        Due.is("run(40, 20)", x.run(40, 20), -1);
        Due.is("run(-1, 20)", x.run(-1, 20), -2);
    }
}
