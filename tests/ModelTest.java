import java.util.Random;

/** All promises: runs of calls by lots, each answer compared with the model's. */
public final class ModelTest {
    private static final int RUNS = 300, CALLS = 120;
    private static final String[] TOKENS = {"(", ")", ";", "+", "-", "*", "<", "=", "or", "and", "not", "high", "at",
        "long", "clover", "year", "more", "walks", "grows", "needs", "1", "2", "30", "9999", "12345", "x", "?", "  ",
        "\n", "7"};

    private final Random lots;
    private final DunesWalked x = new DunesWalked();
    private final Model m = new Model();
    private final int run;

    private ModelTest(int run) {
        this.run = run;
        this.lots = new Random(run);
    }

    public static void main(String[] args) {
        for (int run = 0; run < RUNS; run++) {
            ModelTest t = new ModelTest(run);
            t.settle();
            for (int i = 0; i < CALLS; i++) {
                t.call(t.lots.nextInt(41));
            }
        }
        Due.end();
    }

    private int lot(int least, int most) {
        return least + lots.nextInt(most - least + 1);
    }

    /** Mostly within the bounds, at times just beyond them, seldom far off. */
    private int near(int least, int most) {
        int l = lots.nextInt(60);
        if (l == 0) {
            return lots.nextInt();
        }
        return l < 4 ? lot(least - 2, most + 2) : lot(least, most);
    }

    private void settle() {
        for (int i = lot(0, 14); i > 0; i--) {
            call(1);
        }
        for (int i = lot(0, 2); i > 0; i--) {
            call(4);
        }
        for (int i = lot(0, 7); i > 0; i--) {
            call(8);
        }
    }

    private void due(String call, long got, long want) {
        Due.is("run " + run + ": " + call, got, want);
    }

    /** A text by the grammar, so deep at most that it often goes just beyond what may be open. */
    private String expression(int deep) {
        String[] atoms = {"high", "at", "long", "clover", "year", "more", "" + lot(0, 12), "" + lot(0, 9999)};
        if (deep <= 0 || lots.nextInt(5) == 0) {
            return atoms[lots.nextInt(atoms.length)];
        }
        switch (lots.nextInt(8)) {
            case 0: return "(" + expression(deep - 1) + ")";
            case 1: return "-" + expression(deep - 1);
            case 2: return "not " + expression(deep - 1);
            case 3: return "(" + expression(deep - 1) + (lots.nextBoolean() ? "<" : "=") + expression(deep - 2) + ")";
            case 4: return expression(deep - 1) + " and " + expression(deep - 2);
            case 5: return expression(deep - 2) + " or " + expression(deep - 1);
            default: return expression(deep - 1) + "+-*-*<".charAt(lots.nextInt(6)) + expression(deep - 1);
        }
    }

    private void text() {
        int deep = lot(0, 4);
        String text = "walks " + expression(deep) + ";grows " + expression(deep) + " ;needs " + expression(deep - 1)
            + ";";
        if (lots.nextInt(4) == 0) {
            text = "walks " + lot(0, 4) + ";grows 1-9*clover*(" + expression(1) + ");needs " + lot(0, 3) + "*more;";
        }
        for (int i = lots.nextInt(3) == 0 ? lot(1, 3) : 0; i > 0; i--) {
            int at = lots.nextInt(text.length() + 1);
            int to = Math.min(text.length(), at + lots.nextInt(3));
            text = text.substring(0, at) + (lots.nextInt(4) == 0 ? "" : TOKENS[lots.nextInt(TOKENS.length)])
                + text.substring(to);
        }
        for (int i = 0; i < text.length(); i += 5) {
            int[] b = new int[5];
            int n = Math.min(5, text.length() - i);
            for (int k = 0; k < n; k++) {
                b[k] = text.charAt(i + k);
            }
            due("feed", x.feed(n, b[0], b[1], b[2], b[3], b[4]), m.feed(n, b[0], b[1], b[2], b[3], b[4]));
        }
        String tape = m.tape;
        int t = m.text();
        due("text() of " + tape, x.text(), t);
        if (t > 0 && lots.nextBoolean()) {
            due("force", x.force(t), m.force(t));
        }
    }

    private void call(int which) {
        int s = near(0, 3), d = near(0, 5), a, b, c, e;
        switch (which) {
            case 0: a = near(0, 7); due("count(" + a + ")", x.count(a), m.count(a)); break;
            case 1: a = near(0, 39); b = near(0, 1); c = near(0, 1);
                due("yard(" + a + ", " + b + ", " + c + ")", x.yard(a, b, c), m.yard(a, b, c)); break;
            case 2: a = near(0, 3); due("parish(" + a + ")", x.parish(a), m.parish(a)); break;
            case 3: a = near(1, 5); b = near(0, 255);
                due("feed", x.feed(a, b, 97, 98, 32, 0), m.feed(a, b, 97, 98, 32, 0)); break;
            case 4: text(); break;
            case 5: a = near(0, m.texts.size() - 1); due("force(" + a + ")", x.force(a), m.force(a)); break;
            case 6: a = near(0, 2); due("asks(" + a + ", " + d + ")", x.asks(a, d), m.asks(a, d)); break;
            case 7: case 8: a = near(0, 59); b = lot(0, 25) * 10000 + near(1, 9) * 1000 + near(0, 99);
                b = lots.nextInt(30) == 0 ? near(0, 399999) : b;
                due("dune(" + a + ", " + b + ")", x.dune(a, b), m.dune(a, b)); break;
            case 9: a = near(0, 2); b = near(0, a == 0 ? 39 : a == 1 ? 9 : 99);
                due("put(" + d + ", " + a + ", " + b + ")", x.put(d, a, b), m.put(d, a, b)); break;
            case 10: a = near(0, 8); due("told(" + d + ", " + a + ")", x.told(d, a), m.told(d, a)); break;
            case 11: due("grows(" + d + ")", x.grows(d), m.grows(d)); break;
            case 12: case 13: due("year()", x.year(), m.year()); break;
            case 14: case 15: a = near(0, 40); b = lots.nextBoolean() ? near(0, 2) : near(10, 25);
                due("run(" + a + ", " + b + ")", x.run(a, b), m.run(a, b)); break;
            case 16: case 17: a = near(0, 39); b = near(0, 2);
                due("comes(" + a + ", " + b + ")", x.comes(a, b), m.comes(a, b)); break;
            case 18: due("ends(" + d + ")", x.ends(d), m.ends(d)); break;
            case 19: a = near(0, 1); due("first(" + a + ")", x.first(a), m.first(a)); break;
            case 20: a = near(0, 20); b = near(0, 1);
                due("sow(" + a + ", " + b + ")", x.sow(a, b), m.sow(a, b)); break;
            case 21: a = lots.nextInt(8) == 0 ? near(0, 20) : lot(0, 3); b = near(0, 1);
                due("move(" + a + ", " + b + ")", x.move(a, b), m.move(a, b)); break;
            case 22: a = near(0, 40); b = near(0, 1);
                due("hold(" + a + ", " + b + ")", x.hold(a, b), m.hold(a, b)); break;
            case 23: a = near(0, 40); b = near(0, 1);
                due("share(" + a + ", " + b + ")", x.share(a, b), m.share(a, b)); break;
            case 24: due("judge(" + s + ", " + d + ")", x.judge(s, d), m.judge(s, d)); break;
            case 25: a = near(0, 1); due("kinds(" + s + ", " + d + ", " + a + ")", x.kinds(s, d, a), m.kinds(s, d, a));
                break;
            case 26: case 27: a = near(0, 2); b = near(0, 1);
                due("states(" + s + ", " + d + ", " + a + ", " + b + ")", x.states(s, d, a, b), m.states(s, d, a, b));
                break;
            case 28: due("whose(" + s + ")", x.whose(s), m.whose(s)); break;
            case 29: due("laws(" + s + ", " + d + ")", x.laws(s, d), m.laws(s, d)); break;
            case 30: case 31: a = near(0, 20);
                due("film(" + s + ", " + d + ", " + a + ")", x.film(s, d, a), m.film(s, d, a)); break;
            case 32: a = near(0, 99999); b = near(0, 1);
                due("drawn(" + a + ", " + b + ")", x.drawn(a, b), m.drawn(a, b)); break;
            case 33: a = near(0, 99999); b = near(1, 40); c = near(0, 40); e = near(0, 1);
                due("odds(" + a + ", " + b + ", " + c + ", " + e + ")", x.odds(a, b, c, e), m.odds(a, b, c, e)); break;
            case 34: due("image()", x.image(), m.image()); break;
            case 35: due("back()", x.back(), m.back()); break;
            case 36: a = near(-1, 2); b = lots.nextBoolean() ? near(0, 6) : near(0, 40);
                due("sheet(" + s + ", " + a + ", " + b + ")", x.sheet(s, a, b), m.sheet(s, a, b)); break;
            case 37: cells(s); break;
            case 38: a = near(0, 9); b = near(0, 3); c = near(0, 9); e = near(0, 8);
                due("copy(" + s + ", " + a + ", " + b + ", " + c + ", " + e + ")", x.copy(s, a, b, c, e),
                    m.copy(s, a, b, c, e)); break;
            case 39: a = near(0, 2); b = near(0, 8); c = near(0, 6);
                due("dunesBy(" + s + ", " + a + ", " + b + ", " + c + ")", x.dunesBy(s, a, b, c),
                    m.dunesBy(s, a, b, c)); break;
            default: a = near(0, 11); b = near(0, 6); due("taken(" + a + ", " + b + ")", x.taken(a, b), m.taken(a, b));
                break;
        }
    }

    private void cells(int s) {
        for (int i = 0; i < 8; i++) {
            int v = i % 2 == 0 ? near(0, 59) : lot(0, 30) * 10000 + near(1, 9) * 1000 + near(0, 99);
            int at = lots.nextInt(12) == 0 ? near(0, 40) : i;
            due("cell(" + s + ", " + at + ", " + v + ")", x.cell(s, at, v), m.cell(s, at, v));
        }
    }
}
