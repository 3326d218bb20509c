/** What the tests share: it prints each answer that is not due, and ends with code 1 if there was one. */
final class Due {
    private static int wrong = 0;
    private static int asked = 0;
    private static String sentence = "";

    private Due() {
    }

    /** The sentence of the document by which the answers from here on are due; it is told with each that isn't. */
    static void sentence(String words) {
        sentence = words + ": ";
    }

    static void is(String call, long got, long want) {
        asked++;
        if (got != want) {
            wrong++;
            System.out.println(sentence + call + " answered " + got + ", due is " + want);
        }
    }

    /** Of texts that are unlike, only the lines that are unlike are printed. */
    static void is(String what, String got, String want) {
        asked++;
        if (got.equals(want)) {
            return;
        }
        wrong++;
        String[] gotLines = got.split("\n"), wantLines = want.split("\n");
        System.out.println(sentence + what + ": " + gotLines.length + " lines, due are " + wantLines.length);
        for (int i = 0; i < gotLines.length && i < wantLines.length; i++) {
            if (!gotLines[i].equals(wantLines[i])) {
                System.out.println("  is  " + gotLines[i] + "\n  due " + wantLines[i]);
            }
        }
    }

    /** Feeds a text's bytes five by five; the tape has room for all of them. */
    static void feed(DunesWalked x, String text) {
        for (int i = 0; i < text.length(); i += 5) {
            int n = Math.min(5, text.length() - i);
            int[] b = new int[5];
            for (int k = 0; k < n; k++) {
                b[k] = text.charAt(i + k);
            }
            is("feed of " + text, x.feed(n, b[0], b[1], b[2], b[3], b[4]), i + n);
        }
    }

    /** A text that has its fault at this place, and leaves the tape empty and no text. */
    static void fault(String text, int place) {
        DunesWalked x = new DunesWalked();
        feed(x, text);
        is("text of " + text, x.text(), -100 - place);
        is("the tape behind a fault", x.count(7), 0);
        is("texts behind a fault", x.count(5), 1);
    }

    /** A text without a fault; it leaves the tape empty too. */
    static void fine(String text) {
        DunesWalked x = new DunesWalked();
        feed(x, text);
        is("text of " + text, x.text(), 1);
        is("the tape behind a text", x.count(7), 0);
        is("texts behind a text", x.count(5), 2);
    }

    /** What the text says of a dune, -99 .. 99, if it says this of how much it grows. */
    static void says(DunesWalked x, String expression, int want) {
        feed(x, "walks 0;grows " + expression + ";needs 0;");
        int was = x.force(x.text());
        is("the law ahead of it", was, 0);
        is(expression, x.asks(1, 0), want);
    }

    /** A text that is read without a fault, as the law. */
    static int law(DunesWalked x, String text) {
        feed(x, text);
        int t = x.text();
        if (t < 0) {
            is("text of " + text, t, 1);
        }
        x.force(t);
        return t;
    }

    static void houses(DunesWalked x, int... yards) {
        for (int y : yards) {
            x.yard(y, 0, 1);
        }
    }

    static void clover(DunesWalked x, int... yards) {
        for (int y : yards) {
            x.yard(y, 1, 1);
        }
    }

    /** A sheet of ints that holds these numbers. */
    static void sheet(DunesWalked x, int s, int... numbers) {
        is("sheet", x.sheet(s, 2, numbers.length), 1);
        for (int i = 0; i < numbers.length; i++) {
            is("cell", x.cell(s, i, numbers[i]), 1);
        }
    }

    /** An object with one dune, under a law by this text. */
    static DunesWalked one(String text, int kind, int more, int front, int size, int high) {
        DunesWalked x = new DunesWalked();
        law(x, text);
        is("dune", dune(x, kind, more, front, size, high), 0);
        return x;
    }

    /** A dune, told by its parts. */
    static int dune(DunesWalked x, int kind, int more, int front, int size, int high) {
        return x.dune(10 * kind + more, 10000 * front + 1000 * size + high);
    }

    /** By what both are to be divided for their lowest terms. */
    static int common(int above, int below) {
        int a = above, b = below;
        while (b != 0) {
            int rest = a % b;
            a = b;
            b = rest;
        }
        return a;
    }

    static void end() {
        System.out.println(wrong == 0 ? asked + " answers as due" : wrong + " of " + asked + " answers not as due");
        if (wrong != 0) {
            System.exit(1);
        }
    }
}
