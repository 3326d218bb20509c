import java.util.function.Supplier;
import java.util.function.ToLongFunction;

/**
 * All that can be seen of an object. To look into its sheets, its tape, its texts or its image changes it, so each
 * look is at an object made anew, and none is used for more calls than the document allows.
 */
final class Seen {
    private static final int GONE_SHEET = -11;

    private final Supplier<DunesWalked> made;
    private final String asMade;

    Seen(Supplier<DunesWalked> made) {
        this.made = made;
        this.asMade = of(made);
    }

    /** The call answers as is due, and leaves all as it was. */
    void stays(String call, ToLongFunction<DunesWalked> asked, long due) {
        Due.is(call, asked.applyAsLong(made.get()), due);
        staysBehind(call, asked);
    }

    /** The call leaves all as it was, whatever it answers. */
    void staysBehind(String call, ToLongFunction<DunesWalked> asked) {
        Due.is("what is seen behind " + call, of(() -> {
            DunesWalked x = made.get();
            asked.applyAsLong(x);
            return x;
        }), asMade);
    }

    static String of(Supplier<DunesWalked> made) {
        StringBuilder seen = new StringBuilder();
        parish(made.get(), seen.append("now: "));
        dunes(made.get(), seen.append("dunes: "));
        later(made.get(), seen.append("later: "));
        for (int s = 0; s < 4; s++) {
            sheet(made, s, seen.append("sheet ").append(s).append(": "));
        }
        tape(made.get(), seen.append("tape: "));
        texts(made, seen);
        DunesWalked back = made.get();
        seen.append("back: ").append(back.back()).append('\n');
        parish(back, seen.append("image: "));
        dunes(back, seen.append("dunes of the image: "));
        return seen.toString();
    }

    private static void parish(DunesWalked x, StringBuilder seen) {
        for (int what = 0; what < 8; what++) {
            seen.append(x.count(what)).append(' ');
        }
        for (int what = 0; what < 4; what++) {
            seen.append(x.parish(what)).append(' ');
        }
        seen.append('\n');
    }

    private static void dunes(DunesWalked x, StringBuilder seen) {
        for (int d = 0; d < 6; d++) {
            for (int what = 0; what < 9; what++) {
                seen.append(x.told(d, what)).append(' ');
            }
            seen.append(x.grows(d)).append(' ');
            for (int kind = 0; kind < 6; kind++) {
                seen.append(x.taken(d, kind)).append(' ');
            }
            seen.append(x.taken(6 + d, 6)).append(", ");
        }
        seen.append('\n');
    }

    private static void later(DunesWalked x, StringBuilder seen) {
        for (int n = 0; n <= 40; n += 8) {
            seen.append(x.run(n, 0)).append(' ').append(x.run(n, 2)).append(' ');
            for (int d = 0; d < 6; d++) {
                seen.append(x.run(n, 10 + d)).append(' ').append(x.run(n, 20 + d)).append(' ');
            }
        }
        seen.append(x.drawn(7, 0)).append(' ').append(x.drawn(7, 1)).append('\n');
    }

    private static void tape(DunesWalked x, StringBuilder seen) {
        int t = x.text();
        seen.append(t).append(' ').append(x.count(7)).append(' ');
        seen.append(t < 0 ? 0 : x.force(t)).append('\n');
        dunes(x, seen);
    }

    private static void texts(Supplier<DunesWalked> made, StringBuilder seen) {
        for (int t = 0; t < made.get().count(5); t++) {
            DunesWalked x = made.get();
            seen.append("text ").append(t).append(": ").append(x.force(t)).append(' ');
            dunes(x, seen);
        }
    }

    /** Its sort, how many numbers it has, and each of them that could be a dune's FRONT (-2: another). */
    private static void sheet(Supplier<DunesWalked> made, int s, StringBuilder seen) {
        DunesWalked x = made.get();
        int sort = sortOf(x, s);
        int size = sizeOf(x, s);
        seen.append(sort).append(' ').append(size).append(": ");
        for (int i = 0; i < size; i += 10) {
            DunesWalked y = made.get();
            for (int k = i; k < size && k < i + 10; k++) {
                seen.append(number(y, s, k)).append(' ');
            }
        }
        seen.append('\n');
    }

    static int sortOf(DunesWalked x, int s) {
        for (int sort = 0; sort < 3; sort++) {
            int answer = x.dunesBy(s, sort, 0, 0);
            if (answer >= 0 || answer == GONE_SHEET) {
                return answer >= 0 ? sort : -1;
            }
        }
        return -2;
    }

    /** A copy of none of its numbers goes as far as just behind its last one. */
    static int sizeOf(DunesWalked x, int s) {
        int size = -1;
        while (size < 100 && x.copy(s, size + 1, s, size + 1, 0) == 0) {
            size++;
        }
        return size;
    }

    /** Number i of a sheet, told by a still dune whose FRONT it is; the dunes and another sheet are spoilt by it. */
    static int number(DunesWalked x, int s, int i) {
        int other = (s + 1) % 4;
        x.sheet(other, sortOf(x, s), 1);
        if (x.copy(s, i, other, 0, 1) != 1) {
            return -3;
        }
        x.force(0);
        int probe = x.dune(50, 1050);
        probe = probe < 0 ? 5 : probe;
        for (int d = 0; d < 6; d++) {
            x.put(d, 2, 0);
        }
        if (x.judge(other, probe) == -1) {
            return -1;
        }
        x.put(probe, 2, 50);
        int front = x.states(other, probe, 0, 1);
        return front < 0 ? -2 : front;
    }
}
