/** The Terms of texts: each sentence of a bound, by the last that it allows and the first that it doesn't. */
public final class TextEdgesTest {
    private static final String BEHIND = ";grows 1;needs 1;";
    private static final String[] KEYS = {"walks", "grows", "needs", "or", "and", "not"};
    private static final String[] NAMES = {"high", "at", "long", "clover", "year", "more"};
    /** 2147483647, and -2147483648, by numbers of four digits at most. */
    private static final String MOST = "(4096*4096*128-1)", LEAST = "(4096*4096*128)";

    public static void main(String[] args) {
        tapeOf160();
        tokensAsLongAsCanBe();
        numbersOfFourDigits();
        letters();
        anyByte();
        blanks();
        partsInTheirOrder();
        orsAndAnds();
        nots();
        comparedOnce();
        sumsAndTerms();
        ones();
        namesAtTheirBounds();
        intsThatWrap();
        comparedWithoutWrapping();
        truths();
        firstThatCanNotStand();
        endsTooEarly();
        bytesThatBeginNone();
        neitherKeyNorName();
        everyLetterOfAWord();
        tooLongNumbers();
        sixthBracket();
        sixthNot();
        sixthMinus();
        sixthOfMixed();
        openTillItsBracket();
        openTillWhatItBelongsTo();
        sixTexts();
        longTextsOneBehindAnother();
        textZero();
        saysWalks0To9();
        saysGrowsTo99();
        saysNeeds0To99();
        Due.end();
    }

    /** Dune 0, of no kind's own ways, with its heights and places at a bound or another. */
    private static DunesWalked dune(int more, int front, int size, int high) {
        DunesWalked x = new DunesWalked();
        Due.dune(x, 0, more, front, size, high);
        return x;
    }

    private static void says(String expression, int want) {
        Due.says(dune(7, 18, 5, 66), expression, want);
    }

    private static String filled(String text, int size) {
        StringBuilder all = new StringBuilder(text);
        while (all.length() < size) {
            all.append(' ');
        }
        return all.toString();
    }

    private static void tapeOf160() {
        Due.sentence("THE TAPE (160 bytes at most)");
        Due.fine(filled("walks 1" + BEHIND, 160));
        Due.fine(filled("", 160 - 24) + "walks 1" + BEHIND);
        Due.fault(filled("walks 1" + BEHIND, 159) + ";", 159);
        DunesWalked x = new DunesWalked();
        Due.feed(x, filled("walks 1" + BEHIND, 160));
        Due.is("a byte more", x.feed(1, 32, 0, 0, 0, 0), -4);
        Due.is("text()", x.text(), 1);
    }

    private static void tokensAsLongAsCanBe() {
        Due.sentence("TOKENS, each as long as can be: WORDS, NUMBERS");
        Due.fine("walks2;grows1;needs3;");
        Due.fault("walksgrows 1;needs 1;", 0);
        Due.fault("walks highhigh" + BEHIND, 6);
        Due.fault("walks high high" + BEHIND, 11);
        Due.fault("walks not1or2and3or x" + BEHIND, 20);
        Due.fault("walks 1 or2and3orhigh" + BEHIND, 15);
        Due.fault("walks 12 34" + BEHIND, 9);
        says("12", 12);
        says("1or 0", 1);
        says("3*at", 54);
    }

    private static void numbersOfFourDigits() {
        Due.sentence("NUMBERS (as many digits as stand there; more than 4 are too long)");
        says("0", 0);
        says("0000", 0);
        says("0099", 99);
        says("9999 - 9999", 0);
        says("9999 = 10 * 999 + 9", 1);
        says("9999 < 10 * 1000", 1);
        Due.fine("walks 9999" + BEHIND);
        Due.fault("walks 10000" + BEHIND, 6);
        Due.fault("walks 00000" + BEHIND, 6);
        Due.fault("walks 4294967297" + BEHIND, 6);
    }

    private static void letters() {
        Due.sentence("WORDS (as many letters a .. z as stand there)");
        for (char c = 'a'; c <= 'z'; c++) {
            // at the place behind it the word has ended, if c belongs to it
            Due.fault("walks " + c + " 1" + BEHIND, 6);
            Due.fault("walks high" + c + BEHIND, 6);
            Due.fault("walks " + c + "high" + BEHIND, 6);
        }
        for (char c : new char[] {'`', '{', 'A', 'Z', '_', 'H'}) {
            Due.fault("walks high" + c + BEHIND, 10);
            Due.fault("walks " + c + "high" + BEHIND, 6);
        }
    }

    private static void anyByte() {
        Due.sentence("each byte behind a whole ONE: a digit, a blank, a sign, or a FAULT");
        for (char c = 0; c < 256; c++) {
            String text = "walks 1" + c + BEHIND;
            if (c >= '0' && c <= '9' || c == 32 || c == 10) {
                Due.fine(text);
            } else {
                Due.fault(text, ";+-*<=".indexOf(c) >= 0 ? 8 : 7);
            }
            if (c == 32 || c == 10) {
                Due.fine("walks 1" + BEHIND + c);
                Due.fine(c + "walks 1" + BEHIND);
            } else {
                Due.fault("walks 1" + BEHIND + c, 24);
                Due.fault(c + "walks 1" + BEHIND, 0);
            }
        }
    }

    private static void blanks() {
        Due.sentence("blanks (32, 10) may stand between");
        Due.fine("walks1;grows1;needs1;");
        Due.fine("\n walks\n\n1 ;grows \n1\n; needs 1;\n ");
        says("- 1", -1);
        says("-\n1", -1);
        says("4<5", 1);
        Due.fault("walks hi gh" + BEHIND, 6);
        Due.fault("walks 1 2" + BEHIND, 8);
        Due.fault("walks\t1" + BEHIND, 5);
        Due.fault("walks\r1" + BEHIND, 5);
        Due.fault("walks 1" + (char) 160 + BEHIND, 7);
    }

    private static void partsInTheirOrder() {
        Due.sentence("TEXT: walks E ; grows E ; needs E ;");
        Due.fault("walks 1;grows 1;", 16);
        Due.fault("walks 1;needs 1;grows 1;", 8);
        Due.fault("grows 1;walks 1;needs 1;", 0);
        Due.fault("walks 1;walks 1;needs 1;", 8);
        Due.fault("walks 1;grows 1;grows 1;", 16);
        Due.fault("walks ;grows 1;needs 1;", 6);
        Due.fault("walks 1;grows ;needs 1;", 14);
        Due.fault("walks 1;grows 1;needs ;", 22);
        Due.fault("walks 1 grows 1;needs 1;", 8);
        Due.fault("walks 1;;grows 1;needs 1;", 8);
        Due.fault("walks 1;grows 1;needs 1;;", 24);
        Due.fault("walks 1;grows 1;needs 1;walks 1;", 24);
        Due.fault(";walks 1;grows 1;needs 1;", 0);
    }

    private static void orsAndAnds() {
        Due.sentence("E: AND { or AND }. AND: NOT { and NOT }");
        says("0 or 0 or 0 or 2", 1);
        says("1 and 2 and 3 and 0", 0);
        says("1 or 0 and 0", 1);
        says("0 and 0 or 1", 1);
        Due.fault("walks or 1" + BEHIND, 6);
        Due.fault("walks and 1" + BEHIND, 6);
        Due.fault("walks 1 or" + BEHIND, 10);
        Due.fault("walks 1 and" + BEHIND, 11);
        Due.fault("walks 1 or or 1" + BEHIND, 11);
        Due.fault("walks 1 and or 1" + BEHIND, 12);
        Due.fault("walks 1 or and 1" + BEHIND, 11);
        Due.fault("walks (1 or)" + BEHIND, 11);
    }

    private static void nots() {
        Due.sentence("NOT: not NOT, or SUM");
        says("not 0", 1);
        says("not not 5", 1);
        says("1 and not 0", 1);
        says("0 or not 0", 1);
        says("(not 0) + 1", 2);
        Due.fault("walks not" + BEHIND, 9);
        Due.fault("walks 1 not" + BEHIND, 8);
        Due.fault("walks 1 + not 1" + BEHIND, 10);
        Due.fault("walks 1 - not 1" + BEHIND, 10);
        Due.fault("walks 1 * not 1" + BEHIND, 10);
        Due.fault("walks - not 1" + BEHIND, 8);
        Due.fault("walks 1 < not 1" + BEHIND, 10);
        Due.fault("walks 1 = not 1" + BEHIND, 10);
        Due.fault("walks not or 1" + BEHIND, 10);
    }

    private static void comparedOnce() {
        Due.sentence("SUM, perhaps < or = and a SUM");
        says("1 < 2", 1);
        says("2 = 2", 1);
        says("not 1 < 2", 0);
        says("(1 < 2) = 1", 1);
        says("1 < 2 and 2 < 3", 1);
        Due.fault("walks 1 < 2 < 3" + BEHIND, 12);
        Due.fault("walks 1 < 2 = 3" + BEHIND, 12);
        Due.fault("walks 1 = 2 < 3" + BEHIND, 12);
        Due.fault("walks 1 = 2 = 3" + BEHIND, 12);
        Due.fault("walks 1 <= 2" + BEHIND, 9);
        Due.fault("walks 1 == 2" + BEHIND, 9);
        Due.fault("walks < 2" + BEHIND, 6);
        Due.fault("walks = 2" + BEHIND, 6);
        Due.fault("walks 2 <" + BEHIND, 9);
        Due.fault("walks 2 =" + BEHIND, 9);
        Due.fault("walks 1 < 2 or < 3" + BEHIND, 15);
    }

    private static void sumsAndTerms() {
        Due.sentence("SUM: TERM { + or - TERM }. TERM: ONE { * ONE }");
        says("9 - 3 - 2 - 1", 3);
        says("9 - (3 - 2) - 1", 7);
        says("1 + 2 * 3 * 4 + 5", 30);
        says("3 * 4 - 5 * 2", 2);
        Due.fault("walks + 1" + BEHIND, 6);
        Due.fault("walks * 1" + BEHIND, 6);
        Due.fault("walks 1 +" + BEHIND, 9);
        Due.fault("walks 1 -" + BEHIND, 9);
        Due.fault("walks 1 *" + BEHIND, 9);
        Due.fault("walks 1 + + 1" + BEHIND, 10);
        Due.fault("walks 1 - + 1" + BEHIND, 10);
        Due.fault("walks 1 ** 1" + BEHIND, 9);
        Due.fault("walks - * 1" + BEHIND, 8);
    }

    private static void ones() {
        Due.sentence("ONE: a NUMBER, a NAME, - ONE, ( E )");
        says("3", 3);
        says("at", 18);
        says("- at", -18);
        says("- - 3", 3);
        says("(3)", 3);
        says("(1 or 0)", 1);
        says("-(2 - 5)", 3);
        says("- 2 * 3", -6);
        says("4 - - 3", 7);
        Due.fault("walks ()" + BEHIND, 7);
        Due.fault("walks (" + BEHIND, 7);
        Due.fault("walks (1" + BEHIND, 8);
        Due.fault("walks 1)" + BEHIND, 7);
        Due.fault("walks (1))" + BEHIND, 9);
        Due.fault("walks )" + BEHIND, 6);
        Due.fault("walks (1)(1)" + BEHIND, 9);
        Due.fault("walks 1(1)" + BEHIND, 7);
        Due.fault("walks (1)1" + BEHIND, 9);
        Due.fault("walks -" + BEHIND, 7);
        Due.fault("walks (-)" + BEHIND, 8);
        Due.fault("walks (1;grows 1;needs 1);", 8);
    }

    private static void namesAtTheirBounds() {
        Due.sentence("high: HIGH; at: FRONT; long: LONG; clover; year: YEAR; more: MORE");
        String all = "high*0 + at*0 + long*0 + clover*0 + year*0 + more*0 + ";
        for (int high : new int[] {0, 99}) {
            Due.says(dune(0, 9, 2, high), all + "high", high);
        }
        for (int front : new int[] {0, 39}) {
            Due.says(dune(5, front, 2, 50), all + "at", front);
        }
        for (int size : new int[] {1, 9}) {
            Due.says(dune(5, 20, size, 50), all + "long", size);
        }
        for (int more : new int[] {0, 9}) {
            Due.says(dune(more, 20, 2, 50), all + "more", more);
        }
        DunesWalked x = dune(5, 20, 2, 50);
        x.yard(18, 1, 1);
        x.yard(21, 1, 1);
        Due.says(x, all + "clover", 0);
        DunesWalked y = dune(5, 20, 2, 50);
        y.yard(19, 1, 1);
        y.yard(20, 1, 1);
        Due.says(y, all + "clover", 1);
        DunesWalked z = dune(5, 20, 2, 50);
        Due.says(z, all + "year", 0);
        z.year();
        Due.is("year is 1 behind a year", z.asks(1, 0), 1);
    }

    private static void intsThatWrap() {
        Due.sentence("An E is an int (32 bits, wrapping)");
        says(MOST + "+1 = " + LEAST, 1);
        says(LEAST + "-1 = " + MOST, 1);
        says("-" + LEAST + " = " + LEAST, 1);
        says("-" + MOST + "-1 = " + LEAST, 1);
        says(MOST + "*2", -2);
        says(LEAST + "*2", 0);
        says(LEAST + "*" + MOST + " = " + LEAST, 1);
        says(MOST + "*" + MOST, 1);
        says("4096*4096*256 + 3", 3);
        says("9999*9999*9999 < 0", 9999 * 9999 * 9999 < 0 ? 1 : 0);
        says("9999*9999*43 < 0", 9999 * 9999 * 43 < 0 ? 1 : 0);
    }

    private static void comparedWithoutWrapping() {
        Due.sentence("<, = of ints at their ends");
        says(LEAST + " < " + MOST, 1);
        says(MOST + " < " + LEAST, 0);
        says(LEAST + " < 1", 1);
        says("1 < " + LEAST, 0);
        says(LEAST + " < " + LEAST, 0);
        says(MOST + " = " + MOST, 1);
        says(LEAST + " = " + MOST, 0);
    }

    private static void truths() {
        Due.sentence("of or, and, not, <, = 1 or 0 (what is not 0 is true)");
        String[] numbers = {"0", "1", "2", "(0-1)", MOST, LEAST};
        for (int a = 0; a < numbers.length; a++) {
            says("not " + numbers[a], a == 0 ? 1 : 0);
            for (int b = 0; b < numbers.length; b++) {
                says(numbers[a] + " or " + numbers[b], a == 0 && b == 0 ? 0 : 1);
                says(numbers[a] + " and " + numbers[b], a == 0 || b == 0 ? 0 : 1);
                says(numbers[a] + " = " + numbers[b], a == b ? 1 : 0);
            }
        }
        says("2 < 1", 0);
        says("1 < 1", 0);
        says("1 < 2", 1);
    }

    private static void firstThatCanNotStand() {
        Due.sentence("FAULT: the place of the first byte of the first TOKEN that can't stand there");
        Due.fault("high", 0);
        Due.fault("1", 0);
        Due.fault("walks 1 high ? 99999 (", 8);
        Due.fault("walks 1\n\n  high", 11);
        Due.fault("walks ? 99999", 6);
        Due.fault("walks 99999 ?", 6);
        Due.fault("walks 1;grows 1;needs needs;", 22);
    }

    private static void endsTooEarly() {
        Due.sentence("(the text's size, if it ends too early)");
        Due.is("text() of an empty tape", new DunesWalked().text(), -100);
        Due.fault("", 0);
        Due.fault(" ", 1);
        Due.fault(filled("", 160), 160);
        Due.fault(filled("walks 1 +", 160), 160);
        String text = "walks 1 ; grows (2 ) ; needs not - 3 = 4 ;";
        for (int size = 0; size < text.length(); size++) {
            String early = text.substring(0, size);
            int word = size;
            while (word > 0 && early.charAt(word - 1) >= 'a' && early.charAt(word - 1) <= 'z') {
                word--;
            }
            String last = early.substring(word);
            boolean whole = last.isEmpty() || last.equals("walks") || last.equals("grows") || last.equals("needs")
                || last.equals("not");
            Due.fault(early, whole ? size : word);
        }
        Due.fine(text);
    }

    private static void bytesThatBeginNone() {
        Due.sentence("FAULT: also of a byte that begins none");
        for (char c = 0; c < 256; c++) {
            boolean begins = c >= 'a' && c <= 'z' || c >= '0' && c <= '9' || "();+-*<= \n".indexOf(c) >= 0;
            if (!begins) {
                Due.fault("walks " + c + BEHIND, 6);
                Due.fault("walks 1;grows 1;  " + c, 18);
            }
        }
    }

    private static void neitherKeyNorName() {
        Due.sentence("FAULT: of a WORD that is neither KEY nor NAME");
        for (String name : NAMES) {
            Due.fine("walks " + name + BEHIND);
            Due.fault("walks " + name.substring(1) + BEHIND, 6);
            Due.fault("walks " + name.substring(0, name.length() - 1) + BEHIND, 6);
            Due.fault("walks " + name + "s" + BEHIND, 6);
            Due.fault("walks " + name + name + BEHIND, 6);
            Due.fault("walks 1 + " + name + "a" + BEHIND, 10);
            Due.fault(name + " 1" + BEHIND, 0);
        }
        for (String key : KEYS) {
            Due.fault(key + "s 1" + BEHIND, 0);
            Due.fault("walks 1 " + key + "a 1" + BEHIND, 8);
            if (!key.equals("not")) {
                Due.fault("walks " + key + " 1" + BEHIND, 6);
            }
        }
        Due.fault("walks 1 an 1" + BEHIND, 8);
        Due.fault("walks 1 o 1" + BEHIND, 8);
        Due.fault("walks no 1" + BEHIND, 6);
        Due.fault("walk 1" + BEHIND, 0);
    }

    private static void everyLetterOfAWord() {
        Due.sentence("FAULT: of a WORD that is neither KEY nor NAME, by any one letter");
        String[] texts = {"walks 1;grows 1;needs 1 or 1 and not 1;",
            "walks high + at;grows long + clover;needs year + more;"};
        for (String text : texts) {
            Due.fine(text);
            for (int i = 0; i < text.length(); i++) {
                char c = text.charAt(i);
                if (c >= 'a' && c <= 'z') {
                    int begin = i;
                    while (begin > 0 && Character.isLetter(text.charAt(begin - 1))) {
                        begin--;
                    }
                    char other = c == 'z' ? 'a' : (char) (c + 1);
                    Due.fault(text.substring(0, i) + other + text.substring(i + 1), begin);
                }
            }
        }
    }

    private static void tooLongNumbers() {
        Due.sentence("FAULT: of a NUMBER that is too long");
        Due.fine("walks 1 + 9999" + BEHIND);
        Due.fault("walks 1 + 99999" + BEHIND, 10);
        Due.fault("walks 12345high" + BEHIND, 6);
        StringBuilder digits = new StringBuilder("walks ");
        while (digits.length() < 160) {
            digits.append('0');
        }
        Due.fault(digits.toString(), 6);
    }

    private static void sixthBracket() {
        Due.sentence("FAULT: of a ( while 5 of these are open");
        Due.fine("walks (((((1)))))" + BEHIND);
        Due.fault("walks ((((((1))))))" + BEHIND, 11);
        Due.fault("walks (((((", 11);
        Due.fault("walks ((((((", 11);
        Due.fine("walks 1;grows (((((1)))));needs (((((1)))));");
        Due.fault("walks 1;grows 1;needs ((((((1))))));", 27);
    }

    private static void sixthNot() {
        Due.sentence("FAULT: of a not while 5 of these are open");
        Due.fine("walks not not not not not 1" + BEHIND);
        Due.fault("walks not not not not not not 1" + BEHIND, 26);
        Due.fault("walks not not not not not not", 26);
        Due.fault("walks not not not not not or" + BEHIND, 26);
    }

    private static void sixthMinus() {
        Due.sentence("FAULT: of a - ahead of a ONE while 5 of these are open");
        Due.fine("walks -----1" + BEHIND);
        Due.fault("walks ------1" + BEHIND, 11);
        Due.fine("walks 1------1" + BEHIND);
        Due.fault("walks 1-------1" + BEHIND, 13);
        // a - between two TERMS is none of these
        Due.fine("walks (((((1-1-1-1-1-1-1)))))" + BEHIND);
        Due.fault("walks (((((1--1)))))" + BEHIND, 13);
    }

    private static void sixthOfMixed() {
        Due.sentence("FAULT: of the sixth of (, not, - together");
        String[] opens = {"(", "not ", "-"};
        for (int lots = 0; lots < 243; lots++) {
            StringBuilder text = new StringBuilder("walks ");
            StringBuilder closes = new StringBuilder();
            boolean stands = true;
            for (int i = 0, l = lots; i < 5; i++, l /= 3) {
                stands &= l % 3 != 1 || text.charAt(text.length() - 1) != '-';
                text.append(opens[l % 3]);
                closes.append(l % 3 == 0 ? ")" : "");
            }
            if (stands) {
                Due.fine(text + "1" + closes + BEHIND);
                Due.fault(text + "(1)" + closes + BEHIND, text.length());
                Due.fault(text + "-1" + closes + BEHIND, text.length());
                Due.fault(text + "not 1" + closes + BEHIND, text.length());
            }
        }
    }

    private static void openTillItsBracket() {
        Due.sentence("open: a ( till its )");
        Due.fine("walks (1)+(1)+(1)+(1)+(1)+(1)" + BEHIND);
        Due.fine("walks ((((1)+(1))+((1))))*(((((1)))))" + BEHIND);
        Due.fine("walks (1)and((((not 1))))" + BEHIND);
        Due.fault("walks (1)+((((((1))))))" + BEHIND, 15);
        Due.fault("walks ((1)+(((((1))))))" + BEHIND, 15);
        // what is open within it is open no more behind it
        Due.fine("walks (not not not not 1)+(-(--1))" + BEHIND);
    }

    private static void openTillWhatItBelongsTo() {
        Due.sentence("open: not and - till what they belong to ends");
        Due.fine("walks -1--1--1--1--1--1--1" + BEHIND);
        Due.fine("walks -----1*-----1+-----1<-----1" + BEHIND);
        Due.fine("walks not not not not not 1 and not not not not not 1" + BEHIND);
        Due.fine("walks not not not not not 1 or -----1" + BEHIND);
        // a - ends with its ONE, a not with its NOT: its whole comparison
        Due.fine("walks ----(1)*----(1)" + BEHIND);
        Due.fine("walks not not not not -1*-1+-1<-1" + BEHIND);
        Due.fault("walks not not not not not 1*-1" + BEHIND, 28);
        Due.fault("walks not not not not not 1+-1" + BEHIND, 28);
        Due.fault("walks not not not not not 1<-1" + BEHIND, 28);
        Due.fault("walks not not not not not 1=(1)" + BEHIND, 28);
        Due.fault("walks -----(1)" + BEHIND, 11);
        Due.fault("walks ----(1-(1))" + BEHIND, 13);
        Due.fine("walks ---(1-(1))" + BEHIND);
        Due.fine("walks ---(1-(1)--1)" + BEHIND);
    }

    private static void sixTexts() {
        Due.sentence("TEXTS are numbered from 0 on, 6 at most");
        DunesWalked x = new DunesWalked();
        Due.is("TEXTS at first", x.count(5), 1);
        for (int t = 1; t < 6; t++) {
            Due.is("force(" + t + ")", x.force(t), -2);
            Due.feed(x, "walks " + t + BEHIND);
            Due.is("text()", x.text(), t);
        }
        Due.is("TEXTS", x.count(5), 6);
        Due.feed(x, "walks 7" + BEHIND);
        Due.is("text() of a seventh", x.text(), -4);
        Due.is("TEXTS", x.count(5), 6);
        Due.dune(x, 0, 0, 9, 1, 9);
        for (int t = 5; t > 0; t--) {
            x.force(t);
            Due.is("text " + t + " says", x.asks(0, 0), t);
        }
        Due.is("force(6)", x.force(6), -2);
    }

    /** A text that fills the tape: sums of so many ones, and of 68 less these two. */
    private static String ones(int walks, int grows) {
        return "walks 0" + "+1".repeat(walks) + ";grows 0" + "+1".repeat(grows) + ";needs 0"
            + "+1".repeat(68 - walks - grows) + ";";
    }

    private static void longTextsOneBehindAnother() {
        Due.sentence("THE TAPE is empty then (by a FAULT, too): a text has nothing of the ones ahead of it");
        DunesWalked x = dune(3, 20, 2, 50);
        for (int t = 1; t < 6; t++) {
            Due.feed(x, ones(9, 9).substring(0, 159));
            Due.is("text() of a long fault", x.text(), -259);
            Due.law(x, ones(t, 40 + t));
        }
        for (int t = 1; t < 6; t++) {
            x.force(t);
            Due.is("walks of text " + t, x.asks(0, 0), t);
            Due.is("grows of text " + t, x.asks(1, 0), 40 + t);
            Due.is("needs of text " + t, x.asks(2, 0), 28 - 2 * t);
        }
    }

    private static void textZero() {
        Due.sentence("TEXT 0, at first, and THE LAW: walks 2 ; grows 1 - 9 * clover ; needs 1 ;");
        DunesWalked x = dune(3, 20, 2, 50);
        Due.is("THE LAW", x.count(6), 0);
        for (int clover = 0; clover < 2; clover++) {
            Due.is("walks", x.asks(0, 0), 2);
            Due.is("grows", x.asks(1, 0), 1 - 9 * clover);
            Due.is("needs", x.asks(2, 0), 1);
            x.yard(19, 1, 1);
            x.yard(20, 1, 1);
        }
    }

    /** What each part says of a dune, when all three say the same. */
    private static void bounds(String expression, int walks, int grows, int needs) {
        DunesWalked x = dune(3, 20, 2, 50);
        Due.law(x, "walks " + expression + ";grows " + expression + ";needs " + expression + ";");
        Due.is(expression + " walks", x.asks(0, 0), walks);
        Due.is(expression + " grows", x.asks(1, 0), grows);
        Due.is(expression + " needs", x.asks(2, 0), needs);
    }

    private static void saysWalks0To9() {
        Due.sentence("walks 0 .. 9, else the bound");
        bounds("0", 0, 0, 0);
        bounds("-1", 0, -1, 0);
        bounds("9", 9, 9, 9);
        bounds("10", 9, 10, 10);
        bounds(LEAST, 0, -99, 0);
        bounds(MOST, 9, 99, 99);
    }

    private static void saysGrowsTo99() {
        Due.sentence("grows -99 .. 99, else the bound");
        bounds("-98", 0, -98, 0);
        bounds("-99", 0, -99, 0);
        bounds("-100", 0, -99, 0);
        bounds("99", 9, 99, 99);
        bounds("100", 9, 99, 99);
    }

    private static void saysNeeds0To99() {
        Due.sentence("needs 0 .. 99, else the bound");
        bounds("1", 1, 1, 1);
        bounds("0-1", 0, -1, 0);
        bounds("98", 9, 98, 98);
        bounds("9999", 9, 99, 99);
        bounds("-9999", 0, -99, 0);
    }
}
