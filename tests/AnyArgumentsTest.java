import java.lang.reflect.Method;
import java.util.Arrays;
import java.util.Comparator;
import java.util.Random;

/** No call throws, for any arguments in any state; what is asked changes nothing. */
public final class AnyArgumentsTest {
    private static final int[] EDGES = {Integer.MIN_VALUE, Integer.MIN_VALUE + 1, -1000, -101, -100, -20, -10, -2, -1,
        0, 1, 2, 3, 5, 6, 9, 10, 11, 12, 15, 19, 20, 21, 25, 39, 40, 41, 59, 60, 63, 64, 97, 99, 100, 160, 255, 256,
        999, 1000, 1001, 31050, 99999, 100000, 399099, 400000, Integer.MAX_VALUE - 1, Integer.MAX_VALUE};
    private static final String[] ASKING = {"asks", "comes", "count", "drawn", "ends", "first", "grows", "hold",
        "judge", "kinds", "laws", "move", "odds", "parish", "run", "share", "sow", "states", "taken", "told", "whose"};

    public static void main(String[] args) throws ReflectiveOperationException {
        Method[] calls = DunesWalked.class.getDeclaredMethods();
        calls = Arrays.stream(calls).filter(c -> java.lang.reflect.Modifier.isPublic(c.getModifiers()))
            .sorted(Comparator.comparing(Method::getName)).toArray(Method[]::new);
        for (int run = 0; run < 300; run++) {
            throwNothing(calls, run);
        }
        for (int run = 0; run < 60; run++) {
            askingChangesNothing(calls, run);
        }
        Due.end();
    }

    private static Object[] arguments(Method call, Random lots) {
        Object[] arguments = new Object[call.getParameterCount()];
        for (int i = 0; i < arguments.length; i++) {
            arguments[i] = lots.nextInt(3) > 0 ? lots.nextInt(5) : EDGES[lots.nextInt(EDGES.length)];
        }
        return arguments;
    }

    private static void throwNothing(Method[] calls, int run) {
        Random lots = new Random(run);
        DunesWalked x = run % 3 == 0 ? new DunesWalked() : settled(run);
        for (int i = 0; i < 512; i++) {
            Method call = calls[lots.nextInt(calls.length)];
            Object[] arguments = arguments(call, lots);
            try {
                call.invoke(x, arguments);
            } catch (ReflectiveOperationException e) {
                Due.is(call.getName() + Arrays.toString(arguments) + " threw " + e.getCause(), 1, 0);
            }
        }
    }

    private static DunesWalked settled(int run) {
        DunesWalked x = new DunesWalked();
        Due.houses(x, 3, 7, 12, 13, 20, 30, 39);
        Due.clover(x, 9, 22);
        for (int d = 0; d < run % 7; d++) {
            Due.dune(x, (d + run) % 6, (3 * d + run) % 10, (7 * d + run) % 30, 1 + (d + run) % 9, (31 * d + run) % 100);
        }
        x.film(0, 0, run % 20);
        Due.sheet(x, 1, 5, 8, 11);
        Due.law(x, "walks 1 + (high < 40); grows 3 - 7*clover; needs more*2;");
        return x;
    }

    /** One of two like objects is asked everything on the way: both answer alike at the end. */
    private static void askingChangesNothing(Method[] calls, int run) throws ReflectiveOperationException {
        Random lots = new Random(run);
        DunesWalked asked = settled(run);
        DunesWalked left = settled(run);
        for (int i = 0; i < 100; i++) {
            Method call = calls[lots.nextInt(calls.length)];
            if (Arrays.binarySearch(ASKING, call.getName()) >= 0) {
                call.invoke(asked, arguments(call, lots));
            }
            if (i % 30 == 29) {
                Due.is("year()", asked.year(), left.year());
            }
        }
        for (int what = 0; what < 9; what++) {
            Due.is("count(" + what + ")", asked.count(what), left.count(what));
            Due.is("parish(" + what + ")", asked.parish(what), left.parish(what));
            for (int d = 0; d < 6; d++) {
                Due.is("told(" + d + ", " + what + ")", asked.told(d, what), left.told(d, what));
                Due.is("taken(" + (6 + d) + ", 6)", asked.taken(6 + d, 6), left.taken(6 + d, 6));
            }
        }
        Due.is("whose(0)", asked.whose(0), left.whose(0));
        Due.is("whose(1)", asked.whose(1), left.whose(1));
        Due.is("back()", asked.back(), left.back());
    }
}
