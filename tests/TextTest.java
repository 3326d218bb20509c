/** Promises 5 to 7: the tape, texts and their faults, the law. */
public final class TextTest {
    private static final int MIN = Integer.MIN_VALUE, MAX = Integer.MAX_VALUE;

    public static void main(String[] args) {
        feed();
        numbers();
        firstText();
        values();
        order();
        names();
        wrapping();
        tokens();
        faults();
        open();
        force();
        oneBehindAnother();
        longest();
        Due.end();
    }

    private static void feed() {
        DunesWalked x = new DunesWalked();
        for (int n : new int[] {-1, 0, 6, MIN, MAX}) {
            Due.is("feed n " + n, x.feed(n, 0, 0, 0, 0, 0), -2);
        }
        for (int b : new int[] {-1, 256, MIN, MAX}) {
            Due.is("feed a " + b, x.feed(1, b, 0, 0, 0, 0), -2);
            Due.is("feed b " + b, x.feed(1, 0, b, 0, 0, 0), -2);
            Due.is("feed c " + b, x.feed(1, 0, 0, b, 0, 0), -2);
            Due.is("feed d " + b, x.feed(1, 0, 0, 0, b, 0), -2);
            Due.is("feed e " + b, x.feed(1, 0, 0, 0, 0, b), -2);
        }
        Due.is("count(7)", x.count(7), 0);
        int has = 0;
        for (int n = 1; n <= 5; n++) {
            has += n;
            Due.is("feed " + n, x.feed(n, 255, 0, 255, 0, 255), has);
        }
        for (int i = 0; i < 28; i++) {
            x.feed(5, 0, 0, 0, 0, 0);
        }
        Due.is("count(7)", x.count(7), 155);
        Due.is("feed 3", x.feed(3, 0, 0, 0, 0, 0), 158);
        Due.is("feed 3 too many", x.feed(3, 0, 0, 0, 0, 0), -4);
        Due.is("count(7)", x.count(7), 158);
        Due.is("feed BAD ahead of FULL", x.feed(3, 0, 0, 0, 0, 256), -2);
        Due.is("feed 2", x.feed(2, 0, 0, 0, 0, 0), 160);
        Due.is("feed 1 too many", x.feed(1, 0, 0, 0, 0, 0), -4);
        Due.is("text()", x.text(), -100);
        Due.is("count(7)", x.count(7), 0);
    }

    private static void numbers() {
        DunesWalked x = new DunesWalked();
        Due.is("text() of nothing", x.text(), -100);
        for (int t = 1; t < 6; t++) {
            Due.feed(x, "walks 1;grows 2;needs 3;");
            Due.is("text()", x.text(), t);
            Due.is("count(7)", x.count(7), 0);
            Due.is("count(5)", x.count(5), t + 1);
            Due.is("count(6)", x.count(6), 0);
        }
        Due.is("text() of nothing, when full", x.text(), -4);
        Due.feed(x, "walks ?");
        Due.is("text() ahead of the fault", x.text(), -4);
        Due.is("the tape stays", x.count(7), 7);
    }

    /** The first text written out on the tape says the same of every dune. */
    private static void firstText() {
        DunesWalked x = new DunesWalked();
        Due.dune(x, 0, 7, 15, 4, 33);
        Due.clover(x, 12);
        for (int y = 0; y < 2; y++) {
            int[] said = {x.asks(0, 0), x.asks(1, 0), x.asks(2, 0)};
            int[] due = {2, y == 0 ? -8 : 1, 1};
            for (int part = 0; part < 3; part++) {
                Due.is("first text, part " + part, said[part], due[part]);
            }
            x.yard(12, 1, 0);
        }
        Due.clover(x, 12);
        Due.law(x, "walks 2 ; grows 1 - 9 * clover ; needs 1 ;");
        Due.is("asks(0, 0)", x.asks(0, 0), 2);
        Due.is("asks(1, 0)", x.asks(1, 0), -8);
        Due.is("asks(2, 0)", x.asks(2, 0), 1);
    }

    private static int says(String expression) {
        DunesWalked x = new DunesWalked();
        Due.dune(x, 0, 7, 12, 5, 63);
        x.year();
        x.year();
        x.year();
        // then: high 66, at 18, long 5, clover 0, year 3, more 7
        Due.law(x, "walks 0;grows " + expression + ";needs 0;");
        return x.asks(1, 0);
    }

    private static void due(String expression, int want) {
        Due.is(expression, says(expression), want);
    }

    private static void values() {
        due("0", 0);
        due("007", 7);
        due("98", 98);
        due("9999 - 9990", 9);
        due("2 + 3", 5);
        due("2 - 3", -1);
        due("6 * 7", 42);
        due("- 8", -8);
        due("- - 8", 8);
        due("(8)", 8);
        due("3 < 4", 1);
        due("4 < 4", 0);
        due("- 5 < 4", 1);
        due("4 = 4", 1);
        due("4 = 5", 0);
        due("0 or 0", 0);
        due("0 or 7", 1);
        due("7 or 0", 1);
        due("7 or 6", 1);
        due("7 and 0", 0);
        due("0 and 7", 0);
        due("2 and 4", 1);
        due("not 0", 1);
        due("not 9", 0);
        due("not not 9", 1);
        due("not - 1", 0);
    }

    private static void order() {
        due("10 - 3 - 2", 5);
        due("10 - 3 + 2", 9);
        due("2 + 3 * 4", 14);
        due("(2 + 3) * 4", 20);
        due("2 * 3 * 4 - 5 * 2", 14);
        due("- 2 * 3", -6);
        due("2 * - 3", -6);
        due("4 - - 3", 7);
        due("1 + 2 < 4", 1);
        due("1 < 2 + 4 * 0 - 2", 0);
        due("not 1 < 2", 0);
        due("not 2 < 1", 1);
        due("not 3 = 4", 1);
        due("not 0 and 0", 0);
        due("not 1 or 1", 1);
        due("1 or 1 and 0", 1);
        due("(1 or 1) and 0", 0);
        due("0 and 0 or 1", 1);
        due("1 and 1 and 0 or 0 or 2 < 3", 1);
        due("(1 < 2) + (2 < 3)", 2);
        due("(1 < 2) < 2", 1);
        due("(not 0) * 9", 9);
        due("- (3 - 9) * 2", 12);
        due("5 * (1 or 0) - (3 = 3)", 4);
    }

    private static void names() {
        due("high", 66);
        due("at", 18);
        due("long", 5);
        due("clover", 0);
        due("year", 3);
        due("more", 7);
        due("high - at * long", -24);
        DunesWalked x = new DunesWalked();
        Due.dune(x, 0, 0, 20, 3, 0);
        Due.law(x, "walks clover * 5 ; grows 40 + clover ; needs clover * 7 ;");
        for (int y = 16; y < 23; y++) {
            x.yard(y, 1, 1);
            int is = y >= 18 && y <= 20 ? 1 : 0;
            Due.is("walks by clover at " + y, x.asks(0, 0), is * 5);
            Due.is("grows by clover at " + y, x.asks(1, 0), 40 + is);
            Due.is("needs by clover at " + y, x.asks(2, 0), is * 7);
            x.yard(y, 1, 0);
        }
        Due.clover(x, 18, 19, 20);
        Due.is("clover is 1 on three of them", x.asks(1, 0), 41);
    }

    private static void wrapping() {
        due("9999 * 9999 * 9999 = 0 - 98 * 98 + 9999", 0);
        due("9999*9999*9999 < 0", 9999 * 9999 * 9999 < 0 ? 1 : 0);
        due("9999*9999*22 < 0", 1);
        due("9999*9999*22 + 9999*9999*22 < 0", 9999 * 9999 * 22 + 9999 * 9999 * 22 < 0 ? 1 : 0);
        due("4096*4096*256", 0);
        due("4096*4096*128 < 0", 1);
        due("-(4096*4096*128) < 0", 1);
        due("4096*4096*128 - 1 < 0", 0);
        due("4096*4096*128", -99);
        due("4096*4096*128 - 1", 99);
    }

    private static void fault(String text, int place) {
        Due.fault(text, place);
    }

    private static void fine(String text) {
        Due.fine(text);
    }

    private static void tokens() {
        fine("walks2;grows1-9*clover;needs1;");
        fine("  walks\n2\n;\n\ngrows 1;needs 1;\n  ");
        fine("walks 0;grows(1)and(2)or not(3);needs 1;");
        fine("walks 2high;grows 1;needs 1;".replace("2high", "2*high"));
        fault("walks 2high;grows 1;needs 1;", 7);
        fault("walks high2;grows 1;needs 1;", 10);
        fault("walks 1 2;grows 1;needs 1;", 8);
        fault("walks notnot 1;grows 1;needs 1;", 6);
        fault("walksgrows 1;", 0);
        fault("walks 12345;grows 1;needs 1;", 6);
        fine("walks 1234;grows 1;needs 1;");
        fault("walks 00000;grows 1;needs 1;", 6);
        fault("walks 1;grows 99999999999999999999;needs 1;", 14);
        fault("walks 1;\tgrows 1;needs 1;", 8);
        fault("walks 1;\rgrows 1;needs 1;", 8);
        fault("walks 1;grows 1;needs 1;\u0000", 24);
        fault("walks 1;grows 1;needs 1;\u00ff", 24);
        fault("walks H;grows 1;needs 1;", 6);
        fault("walks hIgh;grows 1;needs 1;", 6);
        fault("walks 1/2;grows 1;needs 1;", 7);
        fault("walks 1>2;grows 1;needs 1;", 7);
        fault("walks 1, grows 1;needs 1;", 7);
        fault("walks hig;grows 1;needs 1;", 6);
        fault("walks highs;grows 1;needs 1;", 6);
        fault("walks highz;grows 1;needs 1;", 6);
        fault("walks ahigh;grows 1;needs 1;", 6);
        fault("walks zhigh;grows 1;needs 1;", 6);
        fault("walks 1;grows `;needs 1;", 14);
        fault("walks 1;grows {;needs 1;", 14);
        fault("walks 1;grows :;needs 1;", 14);
    }

    private static void faults() {
        fault("", 0);
        fault("   ", 3);
        fault("  \n", 3);
        fault("walks", 5);
        fault("walks  ", 7);
        fault("walks 1", 7);
        fault("walks 1;", 8);
        fault("walks 1;grows 1;needs 1", 23);
        fault("walks 1;grows 1;needs 1 \n", 25);
        fault("grows 1;walks 1;needs 1;", 0);
        fault("walks 1;needs 1;grows 1;", 8);
        fault("walks 1;grows 1;grows 1;", 16);
        fault("walks 1;grows 1;needs 1;;", 24);
        fault("walks 1;grows 1;needs 1; walks 1;", 25);
        fault("walks 1;grows 1;needs 1; 1", 25);
        fault("walks;grows 1;needs 1;", 5);
        fault("walks walks;grows 1;needs 1;", 6);
        fault("walks + 1;grows 1;needs 1;", 6);
        fault("walks * 1;grows 1;needs 1;", 6);
        fault("walks 1 +;grows 1;needs 1;", 9);
        fault("walks 1 + + 1;grows 1;needs 1;", 10);
        fault("walks 1 * * 1;grows 1;needs 1;", 10);
        fault("walks 1 or;grows 1;needs 1;", 10);
        fault("walks or 1;grows 1;needs 1;", 6);
        fault("walks and 1;grows 1;needs 1;", 6);
        fault("walks 1 not 1;grows 1;needs 1;", 8);
        fault("walks 1 + not 1;grows 1;needs 1;", 10);
        fault("walks 1 < not 1;grows 1;needs 1;", 10);
        fault("walks - not 1;grows 1;needs 1;", 8);
        fault("walks 1 < 2 < 3;grows 1;needs 1;", 12);
        fault("walks 1 = 2 = 3;grows 1;needs 1;", 12);
        fault("walks 1 = 2 < 3;grows 1;needs 1;", 12);
        fault("walks < 3;grows 1;needs 1;", 6);
        fault("walks 3 <;grows 1;needs 1;", 9);
        fault("walks ();grows 1;needs 1;", 7);
        fault("walks (1;grows 1;needs 1;", 8);
        fault("walks 1);grows 1;needs 1;", 7);
        fault("walks (1));grows 1;needs 1;", 9);
        fault("walks (1)(2);grows 1;needs 1;", 9);
        fault("walks (1", 8);
        fault("walks (", 7);
        // the first fault counts, though a later one is worse
        fault("walks 1 1 ? 99999", 8);
        fault("walks 99999 ?", 6);
    }

    private static void open() {
        String behind = ";grows 1;needs 1;";
        fine("walks (((((1)))))" + behind);
        fault("walks ((((((1))))))" + behind, 11);
        fine("walks -----1" + behind);
        fault("walks ------1" + behind, 11);
        fine("walks not not not not not 1" + behind);
        fault("walks not not not not not not 1" + behind, 26);
        fine("walks not(-(not 1))" + behind);
        fault("walks not(-(not(1)))" + behind, 15);
        fault("walks not(-(not -1))" + behind, 16);
        fault("walks not(-(not not 1))" + behind, 16);
        fault("walks not(-((--1)))" + behind, 13);
        // a not, a - and a ( that have ended are open no more
        fine("walks -1--1--1--1--1--1--1" + behind);
        fine("walks not 1 and not 1 and not 1 and not 1 and not 1 and not 1" + behind);
        fine("walks (1)+(1)+(1)+(1)+(1)+(1)" + behind);
        fine("walks ((((-1+-1))))*((((-1))))" + behind);
        fine("walks not not not(-1-1 <-1)or not not not not(1)" + behind);
        // a - between two is not counted
        fine("walks (((((1-1-1)))))" + behind);
        fault("walks (((((1--1)))))" + behind, 13);
        fine("walks not not not not not 1 < 2" + behind);
        fault("walks not not not not not 1 < -2" + behind, 30);
        fault("walks not not not not not 1 < (2)" + behind, 30);
        // what was opened in one part is open no more in the next
        fine("walks -----1;grows -----1;needs (((((1)))));");
        // a sixth in a place where none may stand, and a sixth at the end
        fault("walks (((((not 1)))))" + behind, 11);
        fault("walks (((((", 11);
        fault("walks ((((((", 11);
    }

    private static void force() {
        DunesWalked x = new DunesWalked();
        Due.dune(x, 0, 0, 5, 1, 9);
        Due.feed(x, "walks 4;grows 5;needs 6;");
        Due.is("force ahead of the text", x.force(1), -2);
        Due.is("text()", x.text(), 1);
        Due.is("the law stays", x.asks(0, 0), 2);
        Due.is("force(1)", x.force(1), 0);
        Due.is("count(6)", x.count(6), 1);
        Due.is("asks(0, 0)", x.asks(0, 0), 4);
        Due.is("asks(1, 0)", x.asks(1, 0), 5);
        Due.is("asks(2, 0)", x.asks(2, 0), 6);
        for (int t : new int[] {-1, 2, 6, MIN, MAX}) {
            Due.is("force(" + t + ")", x.force(t), -2);
        }
        Due.is("force(1) again", x.force(1), 1);
        Due.is("force(0)", x.force(0), 1);
        Due.is("count(6)", x.count(6), 0);
        Due.is("asks(2, 0)", x.asks(2, 0), 1);
    }

    /** What an earlier text or fault left behind does not come into a later one. */
    private static void oneBehindAnother() {
        DunesWalked x = new DunesWalked();
        Due.dune(x, 0, 0, 5, 1, 9);
        for (int t = 1; t < 6; t++) {
            Due.feed(x, "walks 1+2*(3+4*(5+6*(7+high;");
            Due.is("text() of a fault", x.text(), -127);
            Due.law(x, "walks " + t + ";grows 2*" + t + "+(1+(1+1));needs 0 or " + t + ";");
            Due.is("count(6)", x.count(6), t);
            Due.is("walks of text " + t, x.asks(0, 0), t);
            Due.is("grows of text " + t, x.asks(1, 0), 2 * t + 3);
            Due.is("needs of text " + t, x.asks(2, 0), 1);
        }
        x.force(1);
        Due.is("grows of text 1", x.asks(1, 0), 5);
    }

    private static void longest() {
        StringBuilder text = new StringBuilder("walks 1");
        while (text.length() < 138) {
            text.append("+1");
        }
        text.append(";grows 7;needs 8;");
        while (text.length() < 160) {
            text.append(' ');
        }
        DunesWalked x = new DunesWalked();
        Due.dune(x, 0, 0, 5, 1, 9);
        Due.law(x, text.toString());
        Due.is("walks", x.asks(0, 0), 9);
        Due.is("grows", x.asks(1, 0), 7);
        Due.is("needs", x.asks(2, 0), 8);
        text.setCharAt(159, 'a');
        fault(text.toString(), 159);
        // the fullest stack: each level keeps one number for each of its rules
        due("1 or 1 and 1<1+1*(0 or 1 and 0<1+1*(0 or 1 and 0<1+1*(0 or 1 and 0<1+1*(0 or 1 and 0<1+1*(0"
            + " or 1 and 0<1+1*1)))))", 1);
        due("0 or 1 and 1<1+1*(0 or 1 and 0<1+1*(0 or 1 and 0<1+1*(0 or 1 and 0<1+1*(0 or 1 and 0<1+1*(0"
            + " or 1 and 0<1+1*1)))))", 1);
        due("0 or 1 and 1<1+1*(0 or 1 and 1<1+1*(0 or 1 and 1<1+1*(0 or 1 and 1<1+1*(0 or 1 and 1<1+1*(0"
            + " or 1 and 3<1+1*1)))))", 0);
    }
}
