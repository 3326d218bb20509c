/** Promises 1 to 12: each sentence of a bound or a refusal, by the last that is taken and the first that isn't. */
public final class ParishEdgesTest {
    private static final int MIN = Integer.MIN_VALUE, MAX = Integer.MAX_VALUE;
    private static final long NO = -4611686018427387904L;

    public static void main(String[] args) {
        newObject();
        countTells();
        countRefuses();
        yardWasSo();
        yardRefusesYards();
        yardRefusesWhatAndIs();
        parishOfNone();
        parishOfAll();
        parishRefuses();
        feedTakesTheFirst();
        feedHowMany();
        feedBytes();
        feedFull();
        feedRefusesFirst();
        textEmptiesTheTape();
        textFull();
        forceWhichWas();
        forceRefuses();
        asksParts();
        asksOfNone();
        duneNumbers();
        duneKindMore();
        duneAtSizeHigh();
        duneHighAbove99();
        duneFull();
        putWhatItWas();
        putNoSuchDune();
        putRefusesWhat();
        putRefusesValues();
        toldOnClover();
        toldHouses();
        toldNoSuchDune();
        toldRefusesWhat();
        growsOfNone();
        Due.end();
    }

    /** Dune 0 stands, dune 1 is GONE, there are no more; text 1 is the law. */
    private static DunesWalked withAGoneOne() {
        DunesWalked x = new DunesWalked();
        Due.law(x, "walks 0;grows 0;needs 1;");
        Due.dune(x, 0, 3, 10, 3, 40);
        Due.dune(x, 0, 3, 20, 3, 0);
        Due.is("year()", x.year(), 2);
        return x;
    }

    private static void newObject() {
        Due.sentence("DunesWalked(): No DUNES, no HOUSES, no CLOVER");
        DunesWalked x = new DunesWalked();
        Due.is("DUNES", x.count(0), 0);
        Due.is("HOUSES", x.parish(0), 0);
        Due.is("CLOVER", x.parish(1), 0);
        Due.is("SAND", x.parish(2), 0);
        for (int d = 0; d < 6; d++) {
            Due.is("told(" + d + ", 0)", x.told(d, 0), -5);
            Due.is("taken(" + d + ", 0)", x.taken(d, 0), -11);
        }
        // two objects have nothing to do with one another
        DunesWalked y = new DunesWalked();
        y.yard(0, 0, 1);
        y.dune(0, 1009);
        y.sheet(0, 0, 1);
        Due.is("HOUSES", x.parish(0), 0);
        Due.is("DUNES", x.count(0), 0);
        Due.is("a SHEET", x.cell(0, 0, 1), -11);
    }

    private static void countTells() {
        Due.sentence("count: 0 DUNES (GONE, too), 1 those that aren't GONE, .. 7 bytes of THE TAPE");
        int[] none = {0, 0, 0, 0, 0, 1, 0, 0};
        for (int what = 0; what < 8; what++) {
            Due.is("count(" + what + ") of nothing", new DunesWalked().count(what), none[what]);
        }
        DunesWalked x = withAGoneOne();
        int[] due = {2, 1, 1, 0, 0, 2, 1, 0};
        for (int what = 0; what < 8; what++) {
            Due.is("count(" + what + ")", x.count(what), due[what]);
        }
        for (int y = 0; y < 40; y++) {
            x.yard(y, 0, 1);
            x.yard(y, 1, 1);
        }
        Due.is("count(3) of all", x.count(3), 40);
        Due.is("count(4) of all", x.count(4), 40);
        x.yard(0, 0, 0);
        x.yard(38, 1, 0);
        x.yard(39, 1, 0);
        Due.is("count(3) of all but one", x.count(3), 39);
        Due.is("count(4) of all but two", x.count(4), 38);
        for (int i = 0; i < 32; i++) {
            x.feed(5, 0, 0, 0, 0, 0);
        }
        Due.is("count(7) of a full tape", x.count(7), 160);
    }

    private static void countRefuses() {
        Due.sentence("count: BAD");
        for (int what : new int[] {-1, 8, MIN, MAX}) {
            Due.is("count(" + what + ")", new DunesWalked().count(what), -2);
        }
    }

    private static void yardWasSo() {
        Due.sentence("yard: there is a HOUSE (0), CLOVER (1; is 1), or none (is 0): as it was");
        for (int y = 0; y < 40; y++) {
            for (int what = 0; what < 2; what++) {
                DunesWalked x = new DunesWalked();
                int[] is = {0, 1, 1, 0, 0, 1};
                int was = 0;
                for (int i : is) {
                    Due.is("yard(" + y + ", " + what + ", " + i + ")", x.yard(y, what, i), was);
                    Due.is("parish(" + what + ")", x.parish(what), i == 1 ? 1L << y : 0);
                    Due.is("parish of the other", x.parish(1 - what), 0);
                    was = i;
                }
            }
        }
    }

    private static void yardRefusesYards() {
        Due.sentence("yard: -5: no such YARD");
        DunesWalked x = new DunesWalked();
        for (int y : new int[] {-1, 40, MIN, MAX}) {
            for (int what = -1; what < 3; what++) {
                Due.is("yard(" + y + ", " + what + ", 1)", x.yard(y, what, 1), -5);
                Due.is("yard(" + y + ", " + what + ", 2)", x.yard(y, what, 2), -5);
            }
        }
        Due.is("parish(0)", x.parish(0), 0);
        Due.is("parish(1)", x.parish(1), 0);
    }

    private static void yardRefusesWhatAndIs() {
        Due.sentence("yard: -7: what, is");
        DunesWalked x = new DunesWalked();
        for (int y : new int[] {0, 39}) {
            for (int bad : new int[] {-1, 2, MIN, MAX}) {
                Due.is("yard(" + y + ", " + bad + ", 1)", x.yard(y, bad, 1), -7);
                Due.is("yard(" + y + ", " + bad + ", 0)", x.yard(y, bad, 0), -7);
                Due.is("yard(" + y + ", 0, " + bad + ")", x.yard(y, 0, bad), -7);
                Due.is("yard(" + y + ", 1, " + bad + ")", x.yard(y, 1, bad), -7);
            }
        }
        Due.is("parish(0)", x.parish(0), 0);
        Due.is("parish(1)", x.parish(1), 0);
    }

    private static void parishOfNone() {
        Due.sentence("parish: of nothing");
        for (int what = 0; what < 4; what++) {
            Due.is("parish(" + what + ")", new DunesWalked().parish(what), 0);
        }
    }

    private static void parishOfAll() {
        Due.sentence("parish: HOUSES (0; bit y for YARD y), CLOVER (1), SAND (2), BURIED (3)");
        DunesWalked x = new DunesWalked();
        for (int y = 0; y < 40; y++) {
            x.yard(y, 0, 1);
            x.yard(y, 1, 1);
        }
        for (int d = 0; d < 5; d++) {
            Due.dune(x, 0, 0, 8 + 8 * d > 39 ? 39 : 8 + 8 * d, 9, 9);
        }
        for (int what = 0; what < 4; what++) {
            Due.is("parish(" + what + ")", x.parish(what), (1L << 40) - 1);
        }
        x.yard(0, 0, 0);
        x.yard(39, 1, 0);
        Due.is("parish(0)", x.parish(0), (1L << 40) - 2);
        Due.is("parish(1)", x.parish(1), (1L << 39) - 1);
        Due.is("parish(3)", x.parish(3), (1L << 40) - 2);
    }

    private static void parishRefuses() {
        Due.sentence("parish: NO: what");
        for (int what : new int[] {-1, 4, MIN, MAX}) {
            Due.is("parish(" + what + ")", new DunesWalked().parish(what), NO);
        }
    }

    private static void feedTakesTheFirst() {
        Due.sentence("feed: the first n of five bytes come behind THE TAPE's, one by one: how many it has");
        String text = "walks 1;grows 2;needs 3; ";
        for (int n = 1; n <= 5; n++) {
            DunesWalked x = new DunesWalked();
            for (int i = 0; i < text.length(); i += n) {
                int m = Math.min(n, text.length() - i);
                int[] b = {'?', '?', '?', '?', '?'};
                for (int k = 0; k < m; k++) {
                    b[k] = text.charAt(i + k);
                }
                Due.is("feed of " + m, x.feed(m, b[0], b[1], b[2], b[3], b[4]), i + m);
                Due.is("count(7)", x.count(7), i + m);
            }
            Due.is("text()", x.text(), 1);
        }
    }

    private static void feedHowMany() {
        Due.sentence("feed: n (1 .. 5), BAD: n");
        for (int n : new int[] {-1, 0, 6, MIN, MAX}) {
            DunesWalked x = new DunesWalked();
            Due.is("feed of " + n, x.feed(n, 1, 1, 1, 1, 1), -2);
            Due.is("count(7)", x.count(7), 0);
        }
        Due.is("feed of 1", new DunesWalked().feed(1, 1, 1, 1, 1, 1), 1);
        Due.is("feed of 5", new DunesWalked().feed(5, 1, 1, 1, 1, 1), 5);
    }

    private static void feedBytes() {
        Due.sentence("feed: five bytes (0 .. 255 each), BAD: any of the five");
        for (int n = 1; n <= 5; n++) {
            for (int at = 0; at < 5; at++) {
                for (int v : new int[] {-1, 256, MIN, MAX}) {
                    DunesWalked x = new DunesWalked();
                    int[] b = {1, 1, 1, 1, 1};
                    b[at] = v;
                    Due.is("feed of " + n + " with " + v + " at " + at, x.feed(n, b[0], b[1], b[2], b[3], b[4]), -2);
                    Due.is("count(7)", x.count(7), 0);
                }
                int[] b = {1, 1, 1, 1, 1};
                b[at] = 255;
                Due.is("feed with 255", new DunesWalked().feed(n, b[0], b[1], b[2], b[3], b[4]), n);
                b[at] = 0;
                Due.is("feed with 0", new DunesWalked().feed(n, b[0], b[1], b[2], b[3], b[4]), n);
            }
        }
    }

    /** A tape of so many blanks. */
    private static DunesWalked blanks(int size) {
        DunesWalked x = new DunesWalked();
        for (int has = 0; has < size;) {
            int n = Math.min(5, size - has);
            has = x.feed(n, 32, 32, 32, 32, 32);
        }
        return x;
    }

    private static void feedFull() {
        Due.sentence("feed: FULL: they have not all room (none comes)");
        for (int n = 1; n <= 5; n++) {
            for (int size = 150; size <= 160; size++) {
                DunesWalked x = blanks(size);
                boolean room = size + n <= 160;
                Due.is("feed of " + n + " behind " + size, x.feed(n, 33, 33, 33, 33, 33), room ? size + n : -4);
                Due.is("count(7)", x.count(7), room ? size + n : size);
                // its fault is the first byte that came, or the size
                Due.is("text()", x.text(), -100 - size);
            }
        }
    }

    private static void feedRefusesFirst() {
        Due.sentence("feed: BAD ahead of FULL");
        DunesWalked x = blanks(160);
        Due.is("feed", x.feed(1, 1, 1, 1, 1, 1), -4);
        Due.is("feed of 0", x.feed(0, 1, 1, 1, 1, 1), -2);
        Due.is("feed of 6", x.feed(6, 1, 1, 1, 1, 1), -2);
        Due.is("feed of 256", x.feed(1, 256, 1, 1, 1, 1), -2);
        Due.is("feed of 256 at last", x.feed(1, 1, 1, 1, 1, 256), -2);
        Due.is("count(7)", x.count(7), 160);
    }

    private static void textEmptiesTheTape() {
        Due.sentence("text: THE TAPE, which is empty then (by a FAULT, too)");
        DunesWalked x = new DunesWalked();
        Due.feed(x, "walks 1;grows 2;needs 3;");
        Due.is("text()", x.text(), 1);
        Due.is("count(7)", x.count(7), 0);
        Due.is("text() of none", x.text(), -100);
        Due.feed(x, "walks 1;grows 2;needs");
        Due.is("text() of a fault", x.text(), -121);
        Due.is("count(7)", x.count(7), 0);
        Due.is("text() of none", x.text(), -100);
        Due.feed(x, " 3;");
        Due.is("text(): nothing is left of the last one", x.text(), -101);
        Due.is("TEXTS", x.count(5), 2);
    }

    private static DunesWalked sixTexts() {
        DunesWalked x = new DunesWalked();
        for (int t = 1; t < 6; t++) {
            Due.feed(x, "walks 1;grows 2;needs 3;");
            Due.is("text()", x.text(), t);
        }
        return x;
    }

    private static void textFull() {
        Due.sentence("text: FULL (ahead of the FAULT; then THE TAPE stays)");
        DunesWalked x = sixTexts();
        Due.is("text() of an empty tape", x.text(), -4);
        Due.feed(x, "walks ?");
        Due.is("text() of a fault", x.text(), -4);
        Due.is("count(7)", x.count(7), 7);
        DunesWalked y = sixTexts();
        Due.feed(y, "walks 4;grows 5;needs 6;");
        Due.is("text()", y.text(), -4);
        Due.is("text() again", y.text(), -4);
        Due.is("count(7)", y.count(7), 24);
        Due.is("feed behind it", y.feed(1, 32, 0, 0, 0, 0), 25);
        Due.is("TEXTS", y.count(5), 6);
    }

    private static void forceWhichWas() {
        Due.sentence("force: A TEXT is THE LAW: which was");
        DunesWalked x = sixTexts();
        int[] order = {5, 5, 0, 0, 3, 1};
        int was = 0;
        for (int t : order) {
            Due.is("force(" + t + ")", x.force(t), was);
            Due.is("count(6)", x.count(6), t);
            was = t;
        }
    }

    private static void forceRefuses() {
        Due.sentence("force: BAD");
        DunesWalked x = new DunesWalked();
        for (int t : new int[] {-1, 1, 5, 6, MIN, MAX}) {
            Due.is("force(" + t + ") of one text", x.force(t), -2);
        }
        DunesWalked y = sixTexts();
        y.force(5);
        for (int t : new int[] {-1, 6, MIN, MAX}) {
            Due.is("force(" + t + ") of six", y.force(t), -2);
        }
        Due.is("count(6)", y.count(6), 5);
    }

    private static void asksParts() {
        Due.sentence("asks: what part 0 walks, 1 grows, 2 needs says of a dune");
        for (int kind = 0; kind < 6; kind++) {
            DunesWalked x = Due.one("walks 7;grows 0-31;needs 22;", kind, 3, 10, 1, 60);
            Due.clover(x, 10);
            Due.is("asks(0, 0) of KIND " + kind, x.asks(0, 0), 7);
            Due.is("asks(1, 0) of KIND " + kind, x.asks(1, 0), -31);
            Due.is("asks(2, 0) of KIND " + kind, x.asks(2, 0), 22);
        }
    }

    private static void asksOfNone() {
        Due.sentence("asks: -1000: none such");
        DunesWalked x = withAGoneOne();
        for (int part : new int[] {-1, 3, MIN, MAX}) {
            Due.is("asks(" + part + ", 0)", x.asks(part, 0), -1000);
        }
        for (int d : new int[] {-1, 1, 2, 5, 6, MIN, MAX}) {
            for (int part = 0; part < 3; part++) {
                Due.is("asks(" + part + ", " + d + ")", x.asks(part, d), -1000);
            }
        }
        Due.is("asks(2, 0)", x.asks(2, 0), 1);
    }

    private static void duneNumbers() {
        Due.sentence("dune: its number");
        DunesWalked x = withAGoneOne();
        for (int d = 2; d < 6; d++) {
            Due.is("dune", x.dune(0, 301009), d);
        }
    }

    private static void duneKindMore() {
        Due.sentence("dune: kindMore: 10 times KIND, and MORE");
        for (int kindMore = 0; kindMore < 60; kindMore++) {
            DunesWalked x = new DunesWalked();
            Due.is("dune(" + kindMore + ", 1009)", x.dune(kindMore, 1009), 0);
            Due.is("KIND", x.told(0, 3), kindMore / 10);
            Due.is("MORE", x.told(0, 4), kindMore % 10);
        }
        for (int kindMore : new int[] {-1, -9, -10, 60, 61, 100, MIN, MAX}) {
            DunesWalked x = new DunesWalked();
            Due.is("dune(" + kindMore + ", 1009)", x.dune(kindMore, 1009), -2);
            Due.is("count(0)", x.count(0), 0);
        }
    }

    private static void duneAtSizeHigh() {
        Due.sentence("dune: atSizeHigh: 10000 times FRONT, 1000 times LONG, and HIGH");
        for (int front = 0; front < 40; front++) {
            for (int size = 0; size < 10; size++) {
                DunesWalked x = new DunesWalked();
                int high = (7 * front + 11 * size) % 100;
                int at = 10000 * front + 1000 * size + high;
                Due.is("dune(0, " + at + ")", x.dune(0, at), size == 0 ? -2 : 0);
                Due.is("FRONT", x.told(0, 0), size == 0 ? -5 : front);
                Due.is("LONG", x.told(0, 1), size == 0 ? -5 : size);
                Due.is("HIGH", x.told(0, 2), size == 0 ? -5 : high);
            }
        }
        for (int at : new int[] {-1, -1000, -8991, 0, 999, 400000, 401009, 1000000, MIN, MAX}) {
            Due.is("dune(0, " + at + ")", new DunesWalked().dune(0, at), -2);
        }
    }

    private static void duneHighAbove99() {
        Due.sentence("dune: BAD (HIGH above 99, too)");
        for (int front : new int[] {0, 39}) {
            for (int size : new int[] {1, 9}) {
                int at = 10000 * front + 1000 * size;
                Due.is("dune, HIGH 99", new DunesWalked().dune(0, at + 99), 0);
                for (int high : new int[] {100, 101, 199, 200, 999}) {
                    DunesWalked x = new DunesWalked();
                    Due.is("dune, HIGH " + high, x.dune(0, at + high), -2);
                    Due.is("count(0)", x.count(0), 0);
                }
            }
        }
    }

    private static void duneFull() {
        Due.sentence("dune: FULL (GONE ones count), behind BAD");
        DunesWalked x = withAGoneOne();
        for (int d = 2; d < 6; d++) {
            x.dune(0, 301009);
        }
        Due.is("a seventh", x.dune(0, 1009), -4);
        Due.is("a seventh of no KIND", x.dune(60, 1009), -2);
        Due.is("a seventh of LONG 0", x.dune(0, 9), -2);
        Due.is("a seventh of HIGH 100", x.dune(0, 1100), -2);
        Due.is("count(0)", x.count(0), 6);
        Due.is("year() takes up three", x.year(), 8 + 16 + 32);
        Due.is("a seventh, three being GONE more", x.dune(0, 1009), -4);
    }

    private static void putWhatItWas() {
        Due.sentence("put: FRONT (0), LONG (1), HIGH (2) becomes v: what it was");
        int[][] values = {{0, 39, 20, 20}, {1, 9, 5, 5}, {0, 99, 50, 50}};
        int[] was = {10, 3, 40};
        DunesWalked x = withAGoneOne();
        for (int what = 0; what < 3; what++) {
            for (int v : values[what]) {
                Due.is("put(0, " + what + ", " + v + ")", x.put(0, what, v), was[what]);
                was[what] = v;
                for (int other = 0; other < 3; other++) {
                    Due.is("told(0, " + other + ")", x.told(0, other), was[other]);
                }
            }
        }
    }

    private static void putNoSuchDune() {
        Due.sentence("put: -5: no such dune (there is none, or it is GONE)");
        DunesWalked x = withAGoneOne();
        for (int d : new int[] {-1, 1, 2, 5, 6, MIN, MAX}) {
            Due.is("put(" + d + ", 0, 5)", x.put(d, 0, 5), -5);
            Due.is("put(" + d + ", 3, 5)", x.put(d, 3, 5), -5);
            Due.is("put(" + d + ", 0, 40)", x.put(d, 0, 40), -5);
        }
        Due.is("its height as last", x.taken(7, 6), 0);
    }

    private static void putRefusesWhat() {
        Due.sentence("put: -7: what");
        DunesWalked x = withAGoneOne();
        for (int what : new int[] {-1, 3, 4, 5, MIN, MAX}) {
            Due.is("put(0, " + what + ", 1)", x.put(0, what, 1), -7);
        }
        int[] due = {10, 3, 40, 0, 3};
        for (int what = 0; what < 5; what++) {
            Due.is("told(0, " + what + ")", x.told(0, what), due[what]);
        }
    }

    private static void putRefusesValues() {
        Due.sentence("put: -7: v");
        DunesWalked x = withAGoneOne();
        int[][] bad = {{-1, 40, MIN, MAX}, {-1, 0, 10, MIN, MAX}, {-1, 100, MIN, MAX}};
        int[] due = {10, 3, 40};
        for (int what = 0; what < 3; what++) {
            for (int v : bad[what]) {
                Due.is("put(0, " + what + ", " + v + ")", x.put(0, what, v), -7);
                Due.is("told(0, " + what + ")", x.told(0, what), due[what]);
            }
        }
    }

    private static void toldOnClover() {
        Due.sentence("told: 5 whether it is on any CLOVER (1, 0)");
        for (int y = 0; y < 40; y++) {
            DunesWalked x = withAGoneOne();
            x.yard(y, 1, 1);
            Due.is("told(0, 5) with clover at " + y, x.told(0, 5), y >= 8 && y <= 10 ? 1 : 0);
        }
        DunesWalked z = withAGoneOne();
        Due.clover(z, 8, 9, 10);
        Due.is("told(0, 5) with clover on all", z.told(0, 5), 1);
    }

    private static void toldHouses() {
        Due.sentence("told: 8 on how many HOUSES it lies");
        DunesWalked x = withAGoneOne();
        Due.is("told(0, 8) without houses", x.told(0, 8), 0);
        Due.houses(x, 7, 11, 20);
        Due.is("told(0, 8) with houses beside", x.told(0, 8), 0);
        Due.houses(x, 8);
        Due.is("told(0, 8) of one", x.told(0, 8), 1);
        Due.houses(x, 9, 10);
        Due.is("told(0, 8) of all", x.told(0, 8), 3);
    }

    private static void toldNoSuchDune() {
        Due.sentence("told: -5: no such dune");
        DunesWalked x = withAGoneOne();
        for (int d : new int[] {-1, 1, 2, 5, 6, MIN, MAX}) {
            for (int what = -1; what < 10; what++) {
                Due.is("told(" + d + ", " + what + ")", x.told(d, what), -5);
            }
        }
    }

    private static void toldRefusesWhat() {
        Due.sentence("told: -7: what");
        DunesWalked x = withAGoneOne();
        for (int what : new int[] {-1, 9, 10, MIN, MAX}) {
            Due.is("told(0, " + what + ")", x.told(0, what), -7);
        }
    }

    private static void growsOfNone() {
        Due.sentence("grows: -1000: no such dune");
        DunesWalked x = withAGoneOne();
        Due.is("grows(0)", x.grows(0), 0);
        for (int d : new int[] {-1, 1, 2, 5, 6, MIN, MAX}) {
            Due.is("grows(" + d + ")", x.grows(d), -1000);
        }
        Due.is("grows(0) of no dunes", new DunesWalked().grows(0), -1000);
    }
}
