/** Promises 5 to 7: feed, text, force; and what texts tell. */
public final class TextsTest {
    private static final Check CHECK = new Check("TextsTest");
    private static final String TAIL = ";crowds 0;minds 0;";

    public static void main(String[] args) {
        feedFillsTheTape();
        textEmptiesTheTape();
        thereAreSixTexts();
        faultsOfTokens();
        wordsMustBeWhole();
        faultsOfTheGrammar();
        faultsOfTheEnd();
        faultsOfWhatIsOpen();
        whatTextsTell();
        whatNamesStandFor();
        boundsOfWhatIsTold();
        theDeepestText();
        theLongestText();
        forceChoosesTheRule();
        CHECK.end();
    }

    private static void feedFillsTheTape() {
        EveryNinth x = new EveryNinth();
        CHECK.due("feed(-1)", x.feed(-1), -2);
        CHECK.due("feed(256)", x.feed(256), -2);
        CHECK.due("feed(MAX)", x.feed(Integer.MAX_VALUE), -2);
        CHECK.due("feed(MIN)", x.feed(Integer.MIN_VALUE), -2);
        for (int i = 1; i <= 160; i++) {
            CHECK.due("feed no. " + i, x.feed(i % 2 == 0 ? 255 : 0), i);
        }
        CHECK.due("feed no. 161", x.feed(97), -4);
        CHECK.due("a bad one ahead of FULL", x.feed(256), -2);
        CHECK.due("count(3)", x.count(3), 160);
    }

    private static void textEmptiesTheTape() {
        EveryNinth x = new EveryNinth();
        CHECK.due("a text", Check.read(x, "costs 2 ; crowds 3 ; minds 4 ;"), 1);
        CHECK.due("count(3)", x.count(3), 0);
        CHECK.due("count(2)", x.count(2), 2);
        CHECK.due("count(4): the rule stays", x.count(4), 0);
        CHECK.due("a fault", Check.read(x, "costs 2 ; crowds 3 ; minds 4"), -128);
        CHECK.due("count(3) by a fault", x.count(3), 0);
        CHECK.due("count(2) by a fault", x.count(2), 2);
        CHECK.due("text() of nothing", x.text(), -100);
        CHECK.due("the next text", Check.read(x, "costs 2 ; crowds 3 ; minds 4 ;"), 2);
    }

    private static void thereAreSixTexts() {
        EveryNinth x = new EveryNinth();
        for (int i = 1; i <= 5; i++) {
            CHECK.due("text no. " + i, Check.read(x, "costs " + i + TAIL), i);
        }
        Check.feedAll(x, "costs");
        CHECK.due("a sixth ahead of its fault", x.text(), -4);
        CHECK.due("the tape stays", x.count(3), 5);
        CHECK.due("count(2)", x.count(2), 6);
        x.thing(0, 0, 6000);
        for (int i = 1; i <= 5; i++) {
            x.force(i);
            CHECK.due("day(0, 1) by text " + i, x.day(0, 1), i);
        }
        EveryNinth empty = new EveryNinth();
        for (int i = 1; i <= 5; i++) {
            Check.read(empty, "costs " + i + TAIL);
        }
        CHECK.due("full with an empty tape", empty.text(), -4);
    }

    private static void fault(String text, int place) {
        EveryNinth x = new EveryNinth();
        CHECK.due("text() of '" + text + "'", Check.read(x, text), place < 0 ? 1 : -100 - place);
        CHECK.due("count(2) behind '" + text + "'", x.count(2), place < 0 ? 2 : 1);
    }

    private static void faultsOfTokens() {
        fault("costs 1;crowds 1;minds 1;", -1);
        fault("costs1;crowds2;minds3;", -1);
        fault("\n costs\n1\n;\ncrowds 1;minds 1 ; \n ", -1);
        fault("costs 9999;crowds 0000;minds 0;", -1);
        fault("costs 10000;crowds 0;minds 0;", 6);
        fault("costs 00001;crowds 0;minds 0;", 6);
        fault("costs 1 + 123456789012345678901;", 10);
        fault("Costs 1;", 0);
        fault("costs\t1;", 5);
        fault("costs 1\r;", 7);
        fault("costs 1 ,", 8);
        fault("costs \u00e9;", 6);
        fault("costs \u0000;", 6);
        fault("costs `;", 6);
        fault("costs {;", 6);
        fault("costs /;", 6);
        fault("costs :;", 6);
        fault("costs 1 > 2;", 8);
        fault("costs 1 & 2;", 8);
        fault("costs days;", 6);
        fault("costs da;", 6);
        fault("costs daymany;", 6);
        fault("costs x;", 6);
        fault("costs 12many;", 8);
        fault("cost 1;", 0);
        fault("costsx 1;", 0);
        fault("costs 1 orday;", 8);
        fault("costs notday;", 6);
        fault("costs not1;crowds 1 or-1;minds(1)and(1);", -1);
    }

    private static void wordsMustBeWhole() {
        for (String word : new String[] {"day", "thing", "many", "period", "rest", "number"}) {
            fault("costs " + word + TAIL, -1);
            for (int i = 0; i < word.length(); i++) {
                fault("costs " + word.substring(0, i) + "q" + word.substring(i + 1) + TAIL, 6);
            }
        }
        fault("qosts 1;", 0);
        fault("costs 1;qrowds 1;", 8);
        fault("costs 1;crowds 1;qinds 1;", 17);
        fault("costs 1;crowds 1;mindq 1;", 17);
        fault("costs 1 oq 1;", 8);
        fault("costs 1 qr 1;", 8);
        fault("costs 1 qnd 1;", 8);
        fault("costs 1 anq 1;", 8);
        fault("costs qot 1;", 6);
        fault("costs noq 1;", 6);
    }

    private static void faultsOfTheGrammar() {
        fault("crowds 1;", 0);
        fault("costs 1; minds 1;", 9);
        fault("costs 1; costs 1;", 9);
        fault("costs 1; crowds 1; crowds 1;", 19);
        fault("costs ;", 6);
        fault("costs 1 2;", 8);
        fault("costs 1 day;", 8);
        fault("costs day day;", 10);
        fault("costs 1 (2);", 8);
        fault("costs 1 not 2;", 8);
        fault("costs 1 + not 2;", 10);
        fault("costs 1 < not 2;", 10);
        fault("costs - not 2;", 8);
        fault("costs 1 * * 2;", 10);
        fault("costs 1 + + 2;", 10);
        fault("costs + 2;", 6);
        fault("costs * 2;", 6);
        fault("costs 1 < 2 < 3;", 12);
        fault("costs 1 = 2 = 3;", 12);
        fault("costs 1 < 2 = 3;", 12);
        fault("costs 1 < = 3;", 10);
        fault("costs 1 or or 2;", 11);
        fault("costs 1 and ;", 12);
        fault("costs or 1;", 6);
        fault("costs and 1;", 6);
        fault("costs crowds;", 6);
        fault("costs minds;", 6);
        fault("costs costs;", 6);
        fault("costs 1 crowds 2;", 8);
        fault("costs ();", 7);
        fault("costs (1;", 8);
        fault("costs (1));", 9);
        fault("costs 1);", 7);
        fault("costs (1 2);", 9);
        fault(";", 0);
        fault("7", 0);
        fault("costs 1;crowds 1;minds 1;;", 25);
        fault("costs 1;crowds 1;minds 1; costs", 26);
        fault("costs 1;crowds 1;minds 1; !", 26);
        fault("costs 1;crowds 1;minds 1; 12345", 26);
        fault("costs 1;crowds )", 15);
        fault("costs 1;crowds 1;minds *", 23);
        fault("costs (1 < 2) < 3;crowds not 1 < 2 and 3 < 4;minds (not 1) + 2;", -1);
        fault("costs 1 - - 1;crowds 1 * - 1;minds 1 < - 1;", -1);
    }

    private static void faultsOfTheEnd() {
        fault("", 0);
        fault("   ", 3);
        fault("\n", 1);
        fault("costs", 5);
        fault("costs ", 6);
        fault("costs 1", 7);
        fault("costs 1 +", 9);
        fault("costs 1 + \n", 11);
        fault("costs (1", 8);
        fault("costs 1;", 8);
        fault("costs 1;crowds 1;", 17);
        fault("costs 1;crowds 1;minds 1", 24);
        fault("costs 1;crowds 1;minds 1  ", 26);
    }

    private static void faultsOfWhatIsOpen() {
        fault("costs (((((1)))))" + TAIL, -1);
        fault("costs ((((((1))))))" + TAIL, 11);
        fault("costs -----1" + TAIL, -1);
        fault("costs ------1" + TAIL, 11);
        fault("costs not not not not not 1" + TAIL, -1);
        fault("costs not not not not not not 1" + TAIL, 26);
        fault("costs not(not((1)))" + TAIL, -1);
        fault("costs not(not(-1))" + TAIL, -1);
        fault("costs not(not(-(1)))" + TAIL, 15);
        fault("costs not(-(-(1)))" + TAIL, 13);
        fault("costs (not(-((1))))" + TAIL, 13);
        fault("costs (not(-(1)))" + TAIL, -1);
        fault("costs (((((1-1)))))" + TAIL, -1);
        fault("costs (((((-1)))))" + TAIL, 11);
        fault("costs (((((not 1)))))" + TAIL, 11);
        fault("costs (((((1)))))+(((((1)))))" + TAIL, -1);
        fault("costs -----1 + -----1 * -----1" + TAIL, -1);
        fault("costs not not 1 and not not not not not 1" + TAIL, -1);
        fault("costs not not 1 or not not not not not 1" + TAIL, -1);
        fault("costs not not not not 1 < -1" + TAIL, -1);
        fault("costs not not not not not 1 < -1" + TAIL, 30);
        fault("costs not not not not not 1 < (1)" + TAIL, 30);
        fault("costs not 1 + ((((1))))" + TAIL, -1);
        fault("costs not 1 + (((((1)))))" + TAIL, 18);
        fault("costs -(1) + (((((1)))))" + TAIL, -1);
        fault("costs -1 * (((((1)))))" + TAIL, -1);
        fault("costs (not 1 and ((((1)))))" + TAIL, -1);
        fault("costs 1;crowds (((((1)))));minds (((((1)))));", -1);
        fault("costs ((((( (", 12);
        fault("costs (((((", 11);
    }

    private static void tells(String e, int want) {
        EveryNinth x = new EveryNinth();
        x.thing(0, 0, 6000);
        CHECK.due("text() of " + e, Check.read(x, "costs " + e + TAIL), 1);
        x.force(1);
        CHECK.due("day(0, 1) by " + e, x.day(0, 1), want);
    }

    private static void whatTextsTell() {
        tells("0", 0);
        tells("42", 42);
        tells("007", 7);
        tells("2 + 3 * 4", 14);
        tells("(2 + 3) * 4", 20);
        tells("20 - 5 - 3", 12);
        tells("20 - (5 - 3)", 18);
        tells("20 - 5 + 3", 18);
        tells("- 3 + 10", 7);
        tells("10 - - 3", 13);
        tells("- 3 * - 4", 12);
        tells("-(3 - 10)", 7);
        tells("1 < 2", 1);
        tells("2 < 2", 0);
        tells("3 < 2", 0);
        tells("-1 < 0", 1);
        tells("2 = 2", 1);
        tells("2 = 3", 0);
        tells("1 + 1 = 2", 1);
        tells("1 + (1 = 2)", 1);
        tells("5 and 7", 1);
        tells("5 and 0", 0);
        tells("0 and 5", 0);
        tells("0 or 9", 1);
        tells("9 or 0", 1);
        tells("0 or 0", 0);
        tells("-1 and -1", 1);
        tells("not 0", 1);
        tells("not 5", 0);
        tells("not -1", 0);
        tells("not not 5", 1);
        tells("not 1 < 0", 1);
        tells("(not 1) < 1", 1);
        tells("not 0 and 0", 0);
        tells("not 1 or 1", 1);
        tells("1 or 0 and 0", 1);
        tells("(1 or 0) and 0", 0);
        tells("0 and 0 or 1", 1);
        tells("1 or 1 or 1", 1);
        tells("3 + (4 or 5) * 2", 5);
        tells("9999 * 9999 * 9999 < 0", 1);
        tells("9999 * 9999 * 22 < 0", 1);
        tells("9999 * 9999 * 21 < 0", 0);
        tells("(9999 * 9999 * 43 < 9999 * 999) * 50", 50);
        tells("9999 * 9999 * 21 + 9999 * 9999 < 0", 1);
        tells("0 < -(9999 * 9999 * 21) - 9999 * 9999", 1);
        tells("-(9999 * 9999 * 21) < 9999 * 9999 * 21", 1);
        tells("9999 * 9999 * 21 < -(9999 * 9999 * 21)", 0);
        tells("9999 * 9999 * 21", 99);
        tells("9999 * 9999 * 22", 0);
    }

    private static void whatNamesStandFor() {
        EveryNinth x = new EveryNinth();
        x.thing(0, 7, 1703);
        x.thing(5, 5, 6059);
        // fixed thing 1 on 5, 35, ..; thing 0 on 3, 20, 37, ..
        Check.read(x, "costs day" + TAIL);
        Check.read(x, "costs 40 + thing * 10 + many" + TAIL);
        Check.read(x, "costs period + number * 3" + TAIL);
        Check.read(x, "costs rest" + TAIL);
        Check.read(x, "costs 0;crowds day + many * 10 + rest + thing + period + number;minds 0;");
        x.force(1);
        CHECK.due("day", x.day(37, 1), 37);
        CHECK.due("day", x.day(35, 1), 35);
        x.force(2);
        CHECK.due("thing and many", x.day(3, 1), 41);
        CHECK.due("thing and many", x.day(35, 1), 51);
        x.force(3);
        CHECK.due("period and number", x.day(20, 1), 38);
        CHECK.due("period and number", x.day(5, 1), 75);
        x.force(4);
        CHECK.due("rest at first", x.day(3, 1), 3);
        CHECK.due("rest", x.day(5, 1), 1);
        CHECK.due("rest", x.day(20, 1), 14);
        CHECK.due("rest", x.day(37, 1), 1);
        x.force(5);
        CHECK.due("no crowd", x.day(5, 1), 0);
        x.set(2, 0, 32);
        CHECK.due("crowds: day, many, rest, the others 0", x.day(35, 1), 35 + 20 + 29);
        CHECK.due("two came", x.day(35, 0), 3);
        EveryNinth y = new EveryNinth();
        y.thing(0, 0, 6010);
        y.thing(0, 6, 700);
        Check.read(y, "costs 0;crowds 0;minds thing * 50 + period * 2 + number - rest - day - many;");
        y.force(1);
        CHECK.due("minds of thing 1: 50 + 14 + 6 - 59", y.goodShift(1, 1), 11);
        CHECK.due("minds of thing 1: most shifted is best", y.goodShift(1, 0), 59);
    }

    private static void boundsOfWhatIsTold() {
        tells("99", 99);
        tells("100", 99);
        tells("9999", 99);
        tells("-1", 0);
        tells("-9999", 0);
        EveryNinth x = new EveryNinth();
        x.thing(2, 0, 100);
        x.thing(3, 0, 100);
        Check.read(x, "costs 500;crowds 100;minds 1000;");
        x.force(1);
        CHECK.due("100 + 198 + 99", x.day(0, 1), 397);
        Check.read(x, "costs -5;crowds -7;minds -9;");
        x.force(2);
        CHECK.due("1 + 2 + 0", x.day(0, 1), 3);
        EveryNinth y = new EveryNinth();
        y.thing(0, 0, 100);
        Check.read(y, "costs 0;crowds 0;minds 1000;");
        Check.read(y, "costs 0;crowds 0;minds -1000;");
        y.force(1);
        CHECK.due("minds are bounded", y.goodShift(0, 1), 99);
        y.force(2);
        CHECK.due("minds are bounded below, too", y.goodShift(0, 1), 0);
    }

    private static void theDeepestText() {
        String step = "0or 1and 1=1-1*";
        String deep = step + "(" + step + "(" + step + "(" + step + "(" + step + "(" + step + "1)))))";
        // each of the six steps tells 1 if what is inside is 0, and 0 else
        tells(deep, 1);
        String deeper = step + "(" + step + "(" + step + "(" + step + "(" + step + "(" + step + "0)))))";
        tells(deeper, 0);
    }

    private static void theLongestText() {
        StringBuilder text = new StringBuilder("costs 1");
        while (text.length() + 2 + TAIL.length() <= 160) {
            text.append("+1");
        }
        int ones = (text.length() - 5) / 2;
        text.append(TAIL);
        EveryNinth x = new EveryNinth();
        CHECK.due("a text of " + text.length(), Check.read(x, text.toString()), 1);
        x.thing(0, 0, 100);
        x.force(1);
        CHECK.due("its sum", x.day(0, 1), ones);
        StringBuilder blanks = new StringBuilder("costs 1" + TAIL);
        while (blanks.length() < 160) {
            blanks.append(' ');
        }
        fullTape("blanks up to the end", blanks.toString(), 1);
        blanks.setCharAt(159, ';');
        fullTape("a fault on the last byte", blanks.toString(), -259);
        blanks.setLength(6);
        while (blanks.length() < 160) {
            blanks.append(' ');
        }
        fullTape("ends too early on a full tape", blanks.toString(), -260);
        blanks.replace(157, 160, "day");
        fullTape("behind a word that ends the tape", blanks.toString(), -260);
        blanks.replace(156, 160, "9999");
        fullTape("behind a number that ends the tape", blanks.toString(), -260);
        blanks.replace(155, 160, "99999");
        fullTape("a number too long that ends the tape", blanks.toString(), -255);
    }

    private static void fullTape(String what, String text, int want) {
        CHECK.due(what, Check.read(new EveryNinth(), text), want);
    }

    private static void forceChoosesTheRule() {
        EveryNinth x = new EveryNinth();
        x.thing(0, 0, 100);
        x.thing(0, 0, 100);
        CHECK.due("force(1): no such text yet", x.force(1), -2);
        CHECK.due("force(-1)", x.force(-1), -2);
        CHECK.due("force(6)", x.force(6), -2);
        CHECK.due("force(MIN)", x.force(Integer.MIN_VALUE), -2);
        CHECK.due("force(MAX)", x.force(Integer.MAX_VALUE), -2);
        Check.read(x, "costs 10;crowds 7;minds 0;");
        CHECK.due("the text is not yet the rule", x.day(9, 1), 2 + 4);
        CHECK.due("force(1)", x.force(1), 0);
        CHECK.due("by text 1", x.day(9, 1), 27);
        CHECK.due("force(2)", x.force(2), -2);
        CHECK.due("still by text 1", x.day(9, 1), 27);
        CHECK.due("force(1) again", x.force(1), 1);
        CHECK.due("force(0)", x.force(0), 1);
        CHECK.due("by text 0", x.day(9, 1), 6);
    }
}
