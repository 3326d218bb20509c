/** What the tests share: it prints each answer that is not due, and ends with code 1 if there was one. */
final class Due {
    private static int wrong = 0;
    private static int asked = 0;

    private Due() {
    }

    static void is(String call, long got, long want) {
        asked++;
        if (got != want) {
            wrong++;
            System.out.println(call + " answered " + got + ", due is " + want);
        }
    }

    /** Feeds a text's bytes five by five; the tape has room for all of them. */
    static void feed(DunesWalked x, String text) {
        for (int i = 0; i < text.length(); i += 5) {
            int n = Math.min(5, text.length() - i);
            int[] b = new int[5];
            for (int k = 0; k < n; k++) {
                b[k] = text.charAt(i + k);
            }
            is("feed of " + text, x.feed(n, b[0], b[1], b[2], b[3], b[4]), i + n);
        }
    }

    /** A text that is read without a fault, as the law. */
    static int law(DunesWalked x, String text) {
        feed(x, text);
        int t = x.text();
        if (t < 0) {
            is("text of " + text, t, 1);
        }
        x.force(t);
        return t;
    }

    static void houses(DunesWalked x, int... yards) {
        for (int y : yards) {
            x.yard(y, 0, 1);
        }
    }

    static void clover(DunesWalked x, int... yards) {
        for (int y : yards) {
            x.yard(y, 1, 1);
        }
    }

    /** A sheet of ints that holds these numbers. */
    static void sheet(DunesWalked x, int s, int... numbers) {
        is("sheet", x.sheet(s, 2, numbers.length), 1);
        for (int i = 0; i < numbers.length; i++) {
            is("cell", x.cell(s, i, numbers[i]), 1);
        }
    }

    /** A dune, told by its parts. */
    static int dune(DunesWalked x, int kind, int more, int front, int size, int high) {
        return x.dune(10 * kind + more, 10000 * front + 1000 * size + high);
    }

    static void end() {
        System.out.println(wrong == 0 ? asked + " answers as due" : wrong + " of " + asked + " answers not as due");
        if (wrong != 0) {
            System.exit(1);
        }
    }
}
