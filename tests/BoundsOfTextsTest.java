/**
 * Each sentence that names a boundary case: the tape, its tokens, the grammar, FAULTS, how many
 * TEXTS there are (part 1 of the Terms, promises 5 to 7).
 */
public final class BoundsOfTextsTest {
    private static final Check CHECK = new Check("BoundsOfTextsTest");
    private static final String TAIL = ";crowds 0;minds 0;";
    private static final String LETTERS = "abcdefghijklmnopqrstuvwxyz";
    private static final String SIGNS = "();+-*<=";

    public static void main(String[] args) {
        aTapesBytes();
        aTapesRoom();
        aFullTapeIsRead();
        tokensAsLongAsCanBe();
        wordsOfLetters();
        numbersOfFourDigits();
        bytesThatBeginNone();
        blanksMayStandBetween();
        threeParts();
        orAndNot();
        oneComparison();
        sumsTermsOnes();
        namesAndKeys();
        faultOfTheEmptyTape();
        faultAtTheTextsSize();
        faultIsTheFirst();
        faultOfWords();
        aWordWithOneLetterChanged();
        faultOfNumbers();
        fiveBracketsOpen();
        fiveNotsOpen();
        fiveMinusesOpen();
        fiveOfAllOpen();
        whatTheyBelongToEnds();
        theDeepestText();
        sixTexts();
        fullAheadOfAll();
        aFaultEmptiesTheTape();
        forceOfTexts();
        CHECK.end();
    }

    private static Run run(String sentence) {
        return new Run(CHECK, sentence);
    }

    private static String times(String what, int n) {
        return what.repeat(n);
    }

    /** The fault of a text, each on a new object, is at this place. */
    private static void fault(String sentence, String text, int place) {
        run(sentence).text(text, -100 - place).due("count(2)", 1).due("count(3)", 0);
    }

    private static void sound(String sentence, String text) {
        run(sentence).text(text, 1).due("count(2)", 2).due("count(3)", 0);
    }

    private static void aTapesBytes() {
        run("feed: A byte (0 .. 255) comes behind THE TAPE: BAD")
                .allDue(-2, "feed(-1)", "feed(256)", "feed(MIN)", "feed(MAX)")
                .due("count(3)", 0)
                .due("feed(0)", 1)
                .due("feed(255)", 2)
                .due("count(3)", 2);
    }

    private static void aTapesRoom() {
        Run run = run("THE TAPE (160 bytes at most); FULL");
        for (int i = 1; i <= 160; i++) {
            run.due("feed(97)", i);
        }
        run.allDue(-4, "feed(97)", "feed(0)", "feed(255)")
                .allDue(-2, "feed(256)", "feed(-1)")
                .due("count(3)", 160)
                .due("text()", -100)
                .due("count(3)", 0)
                .due("feed(97)", 1);
    }

    private static void aFullTapeIsRead() {
        String sentence = "A TEXT is read from THE TAPE (160 bytes at most)";
        String body = "costs 7;crowds 0;minds 0";
        run(sentence).text(body + times(" ", 135) + ";", 1);
        run(sentence).text(body + ";" + times(" ", 135), 1);
        run(sentence).text(body + ";" + times(" ", 134) + ";", -259);
        run(sentence).text(body + times(" ", 136), -260);
        run(sentence).text(times(" ", 136) + body, -260);
        run(sentence).text(times(" ", 160), -260);
        run(sentence).text(times("1", 160), -100);
        run(sentence).text("costs" + times(" ", 152) + "day", -260);
        run(sentence).text(times(" ", 155) + "costs", -260);
        run(sentence).text("costs" + times(" ", 151) + "9999", -260);
        run(sentence).text("costs" + times(" ", 150) + "99999", -255);
        run(sentence).text("costs" + times(" ", 154) + "d", -259);
        run(sentence).text("costs 1" + times("+1", 67) + TAIL + " ", 1)
                .make("thing(0, 0, 100)", "force(1)")
                .due("day(0, 1)", 68);
    }

    private static void tokensAsLongAsCanBe() {
        String sentence = "TOKENS, each as long as can be";
        sound(sentence, "costs1;crowds2;minds3;");
        sound(sentence, "costs not1;crowds 1or 2and 3;minds-rest;");
        fault(sentence, "costsday;", 0);
        fault(sentence, "costs notday;", 6);
        fault(sentence, "costs daymany;", 6);
        fault(sentence, "costs 1 orday;", 8);
        fault(sentence, "costs 12345;", 6);
        fault(sentence, "costs 12day;", 8);
        fault(sentence, "costs 1 2;", 8);
    }

    private static void wordsOfLetters() {
        String sentence = "WORDS (a .. z)";
        for (int i = 0; i < 26; i++) {
            fault(sentence, "costs " + LETTERS.charAt(i) + ";", 6);
            fault(sentence, "costs 1 " + LETTERS.charAt(i) + "day;", 8);
            fault(sentence, "costs day" + LETTERS.charAt(i) + ";", 6);
        }
        fault(sentence, "costs `;", 6);
        fault(sentence, "costs day`;", 9);
        fault(sentence, "costs {;", 6);
        fault(sentence, "costs day{;", 9);
        fault(sentence, "costs DAY;", 6);
        fault(sentence, "costs dAy;", 6);
    }

    private static void numbersOfFourDigits() {
        String sentence = "NUMBERS (as many digits as stand there, 4 at most)";
        for (int digit = 0; digit <= 9; digit++) {
            sound(sentence, "costs " + times("" + digit, 4) + TAIL);
            fault(sentence, "costs " + times("" + digit, 5) + TAIL, 6);
        }
        fault(sentence, "costs 00000;", 6);
        fault(sentence, "costs 00001;", 6);
        fault(sentence, "costs 4294967297;", 6);
        fault(sentence, "costs /;", 6);
        fault(sentence, "costs 9/;", 7);
        fault(sentence, "costs :;", 6);
        fault(sentence, "costs 9:;", 7);
        run(sentence).make("thing(0, 0, 100)")
                .rule("costs (9999 = 9998 + 1) * 70 + 0007 + 0010 + 00" + TAIL)
                .due("day(0, 1)", 87);
    }

    private static boolean mayBegin(int letter) {
        boolean inside = LETTERS.indexOf(letter) >= 0 || SIGNS.indexOf(letter) >= 0;
        return inside || letter >= '0' && letter <= '9' || letter == 32 || letter == 10;
    }

    private static void bytesThatBeginNone() {
        String sentence = "FAULT: the place of a byte that begins none";
        for (int letter = 0; letter <= 255; letter++) {
            if (!mayBegin(letter)) {
                fault(sentence, "costs 1" + TAIL + (char) letter, 25);
                fault(sentence, "costs 1 " + (char) letter + " 2;", 8);
                fault(sentence, "costs 1" + (char) letter, 7);
                fault(sentence, "costs day" + (char) letter, 9);
                fault(sentence, "" + (char) letter, 0);
            }
        }
        for (char sign : SIGNS.toCharArray()) {
            fault(sentence + ": a sign does, but can't stand ahead of costs", "" + sign, 0);
        }
    }

    private static void blanksMayStandBetween() {
        String sentence = "blanks (32, 10) may stand between";
        sound(sentence, "costs 1;crowds 1;minds 1;");
        sound(sentence, " \n costs \n 1 \n ; \n crowds \n 1 ; minds 1 ; \n ");
        sound(sentence, "costs\n1\n;\ncrowds\n1\n;\nminds\n1\n;\n");
        fault(sentence, "co sts 1;", 0);
        fault(sentence, "costs 1 2;", 8);
        fault(sentence, "costs da\ny;", 6);
        for (int blank : new int[] {0, 9, 11, 12, 13, 31, 33, 160}) {
            fault(sentence + ", no other", "costs " + (char) blank + "1" + TAIL, 6);
        }
    }

    private static void threeParts() {
        String sentence = "TEXT: costs E ; crowds E ; minds E ;";
        sound(sentence, "costs 1;crowds 2;minds 3;");
        fault(sentence, "crowds 1;", 0);
        fault(sentence, "minds 1;", 0);
        fault(sentence, ";", 0);
        fault(sentence, "1;", 0);
        fault(sentence, "costs;", 5);
        fault(sentence, "costs 1 crowds 2;", 8);
        fault(sentence, "costs 1;;crowds 2;", 8);
        fault(sentence, "costs 1;costs 2;", 8);
        fault(sentence, "costs 1;minds 2;", 8);
        fault(sentence, "costs 1;crowds;", 14);
        fault(sentence, "costs 1;crowds 2 minds 3;", 17);
        fault(sentence, "costs 1;crowds 2;crowds 3;", 17);
        fault(sentence, "costs 1;crowds 2;minds;", 22);
        fault(sentence, "costs 1;crowds 2;minds 3)", 24);
        fault(sentence, "costs 1;crowds 2;minds 3;;", 25);
        fault(sentence, "costs 1;crowds 2;minds 3;costs 1;", 25);
        fault(sentence, "costs 1;crowds 2;minds 3; \n 0", 28);
    }

    private static void orAndNot() {
        String sentence = "E: AND { or AND }. AND: NOT { and NOT }. NOT: not NOT, or SUM";
        sound(sentence, "costs 1 or 2 or 3 or 4;crowds 1 and 2 and 3;minds not not not 1;");
        sound(sentence, "costs 1 and 2 or 3 and not 4;crowds not 1 and not 2 or not 3;minds(1 or 2)and(3 or 4);");
        fault(sentence, "costs or 1;", 6);
        fault(sentence, "costs and 1;", 6);
        fault(sentence, "costs 1 or;", 10);
        fault(sentence, "costs 1 and;", 11);
        fault(sentence, "costs not;", 9);
        fault(sentence, "costs 1 or or 2;", 11);
        fault(sentence, "costs 1 and or 2;", 12);
        fault(sentence, "costs 1 or and 2;", 11);
        fault(sentence, "costs 1 not 2;", 8);
        fault(sentence, "costs not or 1;", 10);
    }

    private static void oneComparison() {
        String sentence = "NOT: SUM, perhaps < or = and a SUM";
        sound(sentence, "costs 1<2;crowds 1=2;minds not 1+2<3*4 and 5=6;");
        sound(sentence, "costs(1<2)<3;crowds 1<(2<3);minds 1<2 or 2<3;");
        fault(sentence, "costs 1<2<3;", 9);
        fault(sentence, "costs 1=2=3;", 9);
        fault(sentence, "costs 1<2=3;", 9);
        fault(sentence, "costs 1=2<3;", 9);
        fault(sentence, "costs 1<;", 8);
        fault(sentence, "costs <1;", 6);
        fault(sentence, "costs =1;", 6);
        fault(sentence, "costs 1<=2;", 8);
        fault(sentence, "costs 1==2;", 8);
        fault(sentence, "costs 1<not 2;", 8);
    }

    private static void sumsTermsOnes() {
        String sentence = "SUM: TERM { + or - TERM }. TERM: ONE { * ONE }. ONE: a NUMBER, a NAME, - ONE, ( E ).";
        sound(sentence, "costs 1+2-3+4;crowds 1*2*3*4;minds--1*-(-day)-many;");
        sound(sentence, "costs 1--1;crowds 1*-1;minds 1+-1*(2);");
        fault(sentence, "costs +1;", 6);
        fault(sentence, "costs *1;", 6);
        fault(sentence, "costs 1+;", 8);
        fault(sentence, "costs 1-;", 8);
        fault(sentence, "costs 1*;", 8);
        fault(sentence, "costs -;", 7);
        fault(sentence, "costs 1++1;", 8);
        fault(sentence, "costs 1**1;", 8);
        fault(sentence, "costs -+1;", 7);
        fault(sentence, "costs 1+not 1;", 8);
        fault(sentence, "costs 1*not 1;", 8);
        fault(sentence, "costs -not 1;", 7);
        fault(sentence, "costs ();", 7);
        fault(sentence, "costs (1;", 8);
        fault(sentence, "costs 1);", 7);
        fault(sentence, "costs (1));", 9);
        fault(sentence, "costs 1(2);", 7);
        fault(sentence, "costs (1)(2);", 9);
        fault(sentence, "costs (1 2);", 9);
        fault(sentence, "costs (1 or);", 11);
    }

    private static void namesAndKeys() {
        String sentence = "NAMES are day thing many period rest number; the others are KEYS";
        for (String name : new String[] {"day", "thing", "many", "period", "rest", "number"}) {
            sound(sentence, "costs " + name + ";crowds " + name + ";minds " + name + ";");
            fault(sentence, name + " 1;", 0);
            fault(sentence, "costs " + name + "s;", 6);
            fault(sentence, "costs " + name.substring(0, name.length() - 1) + ";", 6);
            fault(sentence, "costs " + name.substring(1) + ";", 6);
            fault(sentence, "costs 1 " + name + ";", 8);
        }
        for (String key : new String[] {"costs", "crowds", "minds", "or", "and"}) {
            fault(sentence, "costs " + key + ";", 6);
        }
    }

    private static void faultOfTheEmptyTape() {
        fault("FAULT: the text's size, if it ends too early: THE TAPE has none", "", 0);
    }

    private static void faultAtTheTextsSize() {
        String sentence = "FAULT: the text's size, if it ends too early";
        String text = "costs (1 + day) ; crowds not 1 ; minds - 2 * ( 3 ) ;";
        for (int n = 0; n < text.length(); n++) {
            // a word that is cut is a fault of its own, where it begins
            int word = n;
            while (word > 0 && LETTERS.indexOf(text.charAt(word - 1)) >= 0) {
                word--;
            }
            boolean cut = n > word && LETTERS.indexOf(text.charAt(n)) >= 0;
            fault(sentence, text.substring(0, n), cut ? word : n);
        }
        sound(sentence, text);
        fault(sentence, "costs 1;crowds 1;minds 1 \n ", 27);
        fault(sentence, "   ", 3);
        fault(sentence, "costs 1 +\n\n", 11);
    }

    private static void faultIsTheFirst() {
        String sentence = "FAULT: the place of the first byte of the first TOKEN that can't stand there";
        fault(sentence, "costs 1 1 @ 99999 qq", 8);
        fault(sentence, "costs @ 1 1", 6);
        fault(sentence, "costs 1 + * ?", 10);
        fault(sentence, "costs 1 crowds @", 8);
        fault(sentence, "costs   minds", 8);
        fault(sentence, "minds 1 ; costs 1 ; @", 0);
        fault(sentence, "  \n minds", 4);
        fault(sentence, "costs 1;crowds 1;minds 1; x 99999", 26);
    }

    private static void faultOfWords() {
        String sentence = "FAULT: a WORD that is neither KEY nor NAME";
        fault(sentence, "cost 1;", 0);
        fault(sentence, "costss 1;", 0);
        fault(sentence, "costs 1;crowd 1;", 8);
        fault(sentence, "costs 1;crowds 1;mind 1;", 17);
        fault(sentence, "costs 1 xor 1;", 8);
        fault(sentence, "costs nor 1;", 6);
        fault(sentence, "costs 1;crowds 1;minds 1;end", 25);
        fault(sentence, "costs " + times("a", 154), 6);
        for (String ahead : new String[] {"", "costs ", "costs(", "costs 1 +", "costs 1 -", "costs -", "costs 1 *",
            "costs 1 <", "costs not ", "costs 1 or ", "costs 1 and ", "costs 1 ", "costs (1) ", "costs ((1)", "costs day ",
            "costs 1;", "costs 1;crowds ", "costs 1;crowds 1;", "costs 1;crowds 1;minds ", "costs 1;crowds 1;minds 1;"}) {
            fault(sentence, ahead + "x", ahead.length());
            fault(sentence, ahead + "x)" + TAIL, ahead.length());
            fault(sentence, ahead + "10000", ahead.length());
            fault(sentence, ahead + "@ 1" + TAIL, ahead.length());
        }
    }

    private static void aWordWithOneLetterChanged() {
        String sentence = "FAULT: a WORD that is neither KEY nor NAME, by one letter";
        String text = "costs day+thing+many or period+rest+number;crowds not 1;minds 1 and 2;";
        sound(sentence, text);
        for (int i = 0; i < text.length(); i++) {
            int word = i;
            while (word > 0 && LETTERS.indexOf(text.charAt(word - 1)) >= 0) {
                word--;
            }
            if (LETTERS.indexOf(text.charAt(i)) >= 0) {
                fault(sentence, text.substring(0, i) + "q" + text.substring(i + 1), word);
            }
        }
    }

    private static void faultOfNumbers() {
        String sentence = "FAULT: a NUMBER that is too long";
        fault(sentence, "10000", 0);
        fault(sentence, "costs 10000;", 6);
        fault(sentence, "costs 1 10000;", 8);
        fault(sentence, "costs 1+10000;", 8);
        fault(sentence, "costs 1;crowds 1;minds 1;10000", 25);
        fault(sentence, "costs " + times("0", 154), 6);
    }

    private static void fiveBracketsOpen() {
        String sentence = "FAULT: a ( while 5 of these are open";
        for (int n = 1; n <= 5; n++) {
            sound(sentence, "costs " + times("(", n) + "1" + times(")", n) + TAIL);
        }
        for (int n = 6; n <= 9; n++) {
            fault(sentence, "costs " + times("(", n) + "1" + times(")", n) + TAIL, 11);
        }
        fault(sentence, "costs (((((", 11);
        fault(sentence, "costs ((((((", 11);
        fault(sentence, "costs ((((( \n(", 13);
        fault(sentence, "costs 1;crowds ((((((1", 20);
        fault(sentence, "costs 1;crowds 1;minds ((((((1", 28);
    }

    private static void fiveNotsOpen() {
        String sentence = "FAULT: a not while 5 of these are open";
        for (int n = 1; n <= 5; n++) {
            sound(sentence, "costs " + times("not ", n) + "1" + TAIL);
        }
        fault(sentence, "costs " + times("not ", 6) + "1" + TAIL, 26);
        fault(sentence, "costs " + times("not ", 5), 26);
        fault(sentence, "costs " + times("not ", 20) + "1" + TAIL, 26);
        fault(sentence, "costs 1;crowds 1;minds " + times("not ", 6) + "1", 43);
    }

    private static void fiveMinusesOpen() {
        String sentence = "FAULT: a - ahead of a ONE while 5 of these are open";
        for (int n = 1; n <= 5; n++) {
            sound(sentence, "costs " + times("-", n) + "1" + TAIL);
        }
        fault(sentence, "costs ------1" + TAIL, 11);
        fault(sentence, "costs -----", 11);
        fault(sentence, "costs - - - - - - 1" + TAIL, 16);
        sound(sentence + ": no - between TERMS is", "costs (((((1-1-1)))))" + TAIL);
        sound(sentence + ": no - between TERMS is", "costs 1------1" + TAIL);
        fault(sentence, "costs 1-------1" + TAIL, 13);
        fault(sentence, "costs (((((1--1)))))" + TAIL, 13);
    }

    private static void fiveOfAllOpen() {
        String sentence = "FAULT: a ( , a not, a - while 5 of these, of all together, are open";
        sound(sentence, "costs not(-(-1))" + TAIL);
        sound(sentence, "costs not not(-(1))" + TAIL);
        sound(sentence, "costs not(-(not 1))" + TAIL);
        fault(sentence, "costs not(-(-(1)))" + TAIL, 13);
        fault(sentence, "costs not(-(not not 1))" + TAIL, 16);
        fault(sentence, "costs not(-(not(1)))" + TAIL, 15);
        fault(sentence, "costs not(-(not-1))" + TAIL, 15);
        fault(sentence, "costs (((((-1)))))" + TAIL, 11);
        fault(sentence, "costs (((((not 1)))))" + TAIL, 11);
        fault(sentence, "costs -----(1)" + TAIL, 11);
        fault(sentence, "costs not not not not not(1)" + TAIL, 25);
        fault(sentence, "costs not not not not not -1" + TAIL, 26);
    }

    private static void whatTheyBelongToEnds() {
        String sentence = "a ( till its ) , not and - till what they belong to ends";
        sound(sentence, "costs (((((1)))))+(((((2)))))*(((((3)))))" + TAIL);
        sound(sentence, "costs ((((1)+(2))+(3))+((4)))" + TAIL);
        sound(sentence, "costs -----1+-----2*-----3<-----4" + TAIL);
        sound(sentence, "costs -(1)*(((((1)))))" + TAIL);
        sound(sentence, "costs -1<(((((1)))))" + TAIL);
        sound(sentence, "costs " + times("not ", 5) + "1 and " + times("not ", 5) + "1 or " + times("not ", 5) + "1"
                + TAIL);
        sound(sentence, "costs not not not not(1)*(2)+(3)<(4)" + TAIL);
        fault(sentence, "costs not not not not not 1<(4)" + TAIL, 28);
        fault(sentence, "costs not not not not not 1+(4)" + TAIL, 28);
        fault(sentence, "costs not not not not not 1*-4" + TAIL, 28);
        fault(sentence, "costs (1 and not not not not not 1)" + TAIL, 29);
        sound(sentence, "costs (1 and not not not not 1)and not not not not not 1" + TAIL);
        fault(sentence, "costs (-1+(((((1))))))" + TAIL, 14);
        sound(sentence, "costs (-1+((((1)))))" + TAIL);
        sound(sentence, "costs (((((1)))));crowds not not not not not 1;minds-----1;");
    }

    private static void theDeepestText() {
        String sentence = "5 of these open, and in each a number waits by or, and, =, -, *";
        String step = "0or 1and 1=1-1*";
        run(sentence).make("thing(0, 0, 100)")
                .rule("costs " + times(step + "(", 5) + step + "1" + times(")", 5) + TAIL)
                .due("day(0, 1)", 1);
        run(sentence).make("thing(0, 0, 100)")
                .rule("costs " + times(step + "(", 5) + step + "0" + times(")", 5) + TAIL)
                .due("day(0, 1)", 0);
    }

    private static void sixTexts() {
        Run run = run("There are 6 TEXTS at most, TEXT 0 with them").due("count(2)", 1);
        for (int i = 1; i <= 5; i++) {
            run.text("costs " + i + TAIL, i).due("count(2)", i + 1);
        }
        run.text("costs 6" + TAIL, -4).due("count(2)", 6).make("thing(0, 0, 100)");
        for (int i = 1; i <= 5; i++) {
            run.due("force(" + i + ")", i - 1).due("day(0, 1)", i);
        }
        run.due("force(6)", -2);
    }

    /** An object with five texts of its own. */
    private static Run full(String sentence) {
        Run run = run(sentence);
        for (int i = 1; i <= 5; i++) {
            run.text("costs " + i + TAIL, i);
        }
        return run;
    }

    private static void fullAheadOfAll() {
        String sentence = "text: FULL (ahead of all): no TEXT more has room (THE TAPE stays)";
        full(sentence).due("text()", -4).due("count(3)", 0);
        full(sentence).feed("minds @").due("text()", -4).due("count(3)", 7).due("text()", -4).due("feed(32)", 8);
        full(sentence).feed("costs 1" + TAIL).due("text()", -4).due("count(3)", 25).due("count(2)", 6);
        Run run = full(sentence).feed(times(" ", 160));
        run.due("text()", -4).due("count(3)", 160).due("feed(32)", -4).due("count(2)", 6);
    }

    private static void aFaultEmptiesTheTape() {
        run("text: THE TAPE, which is empty then (by a FAULT, too)")
                .text("costs 1", -107)
                .due("count(3)", 0)
                .due("text()", -100)
                .text(TAIL, -100)
                .due("count(3)", 0)
                .due("count(2)", 1)
                .text("costs 1" + TAIL, 1)
                .due("count(3)", 0)
                .due("text()", -100)
                .due("count(2)", 2)
                .text("costs 2" + TAIL, 2);
        run("text: by a FAULT nothing of it is left")
                .make("thing(0, 0, 100)")
                .text("costs 5+5 5", -110)
                .text("costs 1" + times("+1", 67) + ";crowds 0;minds 0 ", -259)
                .text("costs 7" + TAIL, 1)
                .due("force(1)", 0)
                .due("day(0, 1)", 7);
        run("text: a FAULT makes no TEXT, the texts stay as they were")
                .make("thing(0, 0, 100)")
                .rule("costs 5" + TAIL)
                .text("costs 9 9", -108)
                .due("day(0, 1)", 5)
                .allDue(-2, "force(2)")
                .due("count(4)", 1)
                .due("count(2)", 2);
    }

    private static void forceOfTexts() {
        run("force: A TEXT is THE RULE: which was. BAD.")
                .allDue(-2, "force(-1)", "force(1)", "force(6)", "force(MIN)", "force(MAX)")
                .due("force(0)", 0)
                .text("costs 1" + TAIL, 1)
                .due("count(4)", 0)
                .due("force(2)", -2)
                .due("force(1)", 0)
                .due("count(4)", 1)
                .allDue(-2, "force(-1)", "force(2)", "force(6)")
                .due("count(4)", 1)
                .due("force(1)", 1)
                .due("force(0)", 1)
                .due("count(4)", 0);
    }
}
