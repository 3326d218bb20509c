import com.sun.management.ThreadMXBean;
import java.lang.management.ManagementFactory;

/**
 * What calls make: all of a run live in one room, so a call makes nothing, but for a text, the first image and a new
 * object, which make little. It is told by the bytes that the machine gave out while thousands of calls were made.
 */
public final class RoomTest {
    private static final int TIMES = 2000;
    /** Far less than one object a call, far more than what the machine itself may need once. */
    private static final long NOTHING = 4 * TIMES;
    private static final int OF_OBJECT = 6000, OF_TEXT = 1000;

    private static DunesWalked x;
    private static long seen;
    private static ThreadMXBean machine;

    private interface Calls {
        long make(int i);
    }

    public static void main(String[] args) {
        if (ManagementFactory.getThreadMXBean() instanceof ThreadMXBean bean && bean.isThreadAllocatedMemorySupported()) {
            machine = bean;
            nothing();
            little();
        } else {
            System.out.println("this machine doesn't tell what it gives out");
        }
        Due.end();
    }

    private static long bytes(Calls calls) {
        for (int i = 0; i < 10; i++) {
            seen += calls.make(i);
        }
        long before = machine.getCurrentThreadAllocatedBytes();
        for (int i = 0; i < TIMES; i++) {
            seen += calls.make(i);
        }
        return machine.getCurrentThreadAllocatedBytes() - before;
    }

    private static void none(String what, Calls calls) {
        x = new DunesWalked();
        Due.houses(x, 3, 8, 12, 13, 20, 27, 33, 39);
        Due.clover(x, 15, 30);
        for (int kind = 0; kind < 5; kind++) {
            Due.dune(x, kind, 3 + kind, 3 + 5 * kind, 1 + kind, 20 + 7 * kind);
        }
        Due.feed(x, "walks (1+(2-(3*(4-(5+more)))));grows 1;needs 0;");
        x.text();
        x.film(0, 1, 20);
        x.sheet(1, 2, 40);
        x.image();
        long bytes = bytes(calls);
        Due.is("bytes that " + TIMES + " times " + what + " made, " + bytes + ", are few", bytes < NOTHING ? 1 : 0, 1);
    }

    private static void nothing() {
        none("count, yard, parish", i -> x.count(i % 9) + x.yard(i % 41, i % 2, i / 2 % 2) + x.parish(i % 5));
        none("feed", i -> x.feed(5, 'w', 'a', 'l', 'k', 's'));
        none("force, asks, grows", i -> x.force(i % 3) + x.asks(i % 4, i % 7) + x.grows(i % 7));
        none("dune, put, told", i -> x.dune(i % 70, 43030) + x.put(i % 6, i % 3, i % 50) + x.told(i % 7, i % 10));
        none("year, back", i -> x.year() + (i % 5 == 0 ? x.back() : 0));
        none("run", i -> x.run(i % 42, i % 30));
        none("comes, ends, first", i -> x.comes(i % 41, i % 4) + x.ends(i % 7) + x.first(i % 3));
        none("sow", i -> x.sow(i % 22, i % 3));
        none("move", i -> x.move(i % 22, i % 3));
        none("hold", i -> x.hold(i % 42, i % 3));
        none("share", i -> x.share(i % 42, i % 3));
        none("judge, whose, laws", i -> x.judge(i % 5, i % 7) + x.whose(i % 5) + x.laws(i % 5, i % 7));
        none("kinds", i -> x.kinds(i % 5, i % 7, i % 3));
        none("states", i -> x.states(0, i % 7, i % 4, i % 3));
        none("film", i -> x.film(i % 5, i % 7, i % 22));
        none("drawn", i -> x.drawn(i, i % 3));
        none("odds", i -> x.odds(i, i % 42, i % 20, i % 3));
        none("image, back", i -> i % 2 == 0 ? x.image() : x.back());
        none("sheet, cell", i -> x.sheet(i % 5, i % 4 - 1, i % 42) + x.cell(i % 5, i % 41, i));
        none("copy", i -> x.copy(1, i % 41, i % 5, i % 7, i % 9 - 1));
        none("dunesBy, back", i -> x.dunesBy(1, 2, i % 40, i % 7) + x.back());
        none("taken", i -> x.taken(i % 13, i % 8));
        none("text that has a fault", i -> x.feed(2, 'o', 'h', 0, 0, 0) + x.text());
    }

    private static void little() {
        long objects = bytes(i -> new DunesWalked().count(0));
        Due.is("bytes of a new object, " + objects / TIMES, objects / TIMES < OF_OBJECT ? 1 : 0, 1);
        long images = bytes(i -> new DunesWalked().image());
        Due.is("bytes of one with an image, " + images / TIMES, images / TIMES < 2 * OF_OBJECT ? 1 : 0, 1);
        long texts = bytes(RoomTest::text);
        Due.is("bytes of one with a text, " + texts / TIMES, texts / TIMES < OF_OBJECT + OF_TEXT ? 1 : 0, 1);
    }

    private static long text(int ignored) {
        DunesWalked fresh = new DunesWalked();
        for (char c : "walks 2*(high<40)+at*more;grows 1-9*clover;needs year=long;".toCharArray()) {
            fresh.feed(1, c, 0, 0, 0, 0);
        }
        return fresh.text();
    }
}
