/**
 * Each sentence that names a boundary case: what a rule of texts tells, its names, its bounds, ints
 * that wrap around (part 1 of the Terms, promises 7, 8 and 18).
 */
public final class BoundsOfRulesTest {
    private static final Check CHECK = new Check("BoundsOfRulesTest");
    /** 2 to the 30th, as a text can tell it. */
    private static final String BIG = "8192*8192*16";

    public static void main(String[] args) {
        intsWrapBySums();
        intsWrapByProducts();
        intsWrapByMinus();
        intsAreCompared();
        oneOrNothing();
        whatIsTrue();
        whatBindsStronger();
        costsBounds();
        crowdsBounds();
        mindsBounds();
        namesInCosts();
        restInCosts();
        namesInCrowds();
        restInCrowds();
        namesInMinds();
        restInMinds();
        crowdsOfTwoOrMore();
        theFirstRule();
        noNamesAreLeft();
        CHECK.end();
    }

    private static Run run(String sentence) {
        return new Run(CHECK, sentence);
    }

    /** What costs E tells of a thing on day 0. */
    private static void tells(String sentence, String e, int want) {
        run(sentence + ": " + e)
                .make("thing(0, 0, 100)")
                .rule("costs " + e + ";crowds 0;minds 0;")
                .due("day(0, 1)", want);
    }

    private static void intsWrapBySums() {
        String sentence = "An E is an int (32 bits, wrapping)";
        tells(sentence, "0<" + BIG + "+(" + BIG + "-1)", 1);
        tells(sentence, BIG + "+(" + BIG + "-1)", 99);
        tells(sentence, BIG + "+" + BIG + "<0", 1);
        tells(sentence, BIG + "+" + BIG, 0);
        tells(sentence, "0<-" + BIG + "-" + BIG + "-1", 1);
        tells(sentence, "-" + BIG + "-" + BIG + "-1", 99);
        tells(sentence, BIG + "+" + BIG + "+" + BIG + "+" + BIG + "+42", 42);
        tells(sentence, BIG + "+" + BIG + "=-" + BIG + "-" + BIG, 1);
    }

    private static void intsWrapByProducts() {
        String sentence = "An E is an int (32 bits, wrapping), by *";
        tells(sentence, BIG + "*2<0", 1);
        tells(sentence, BIG + "*4", 0);
        tells(sentence, BIG + "*4+7", 7);
        tells(sentence, BIG + "*3=-" + BIG, 1);
        tells(sentence, "(" + BIG + "*2+3)*3+" + BIG + "*2", 9);
        tells(sentence, "9999*9999*21", 99);
        tells(sentence, "9999*9999*22", 0);
        tells(sentence, "-1*(" + BIG + "*2)<0", 1);
    }

    private static void intsWrapByMinus() {
        String sentence = "An E is an int (32 bits, wrapping), by - ahead of a ONE";
        tells(sentence, "-(" + BIG + "*2)<0", 1);
        tells(sentence, "-(" + BIG + "*2)=" + BIG + "*2", 1);
        tells(sentence, "0<-(" + BIG + "*2+1)", 1);
    }

    private static void intsAreCompared() {
        String sentence = "of <, = 1 or 0, also where a difference would wrap";
        tells(sentence, BIG + "*2<1", 1);
        tells(sentence, "1<" + BIG + "*2", 0);
        tells(sentence, BIG + "*2<" + BIG + "*2-1", 1);
        tells(sentence, BIG + "*2-1<" + BIG + "*2", 0);
        tells(sentence, "0=" + BIG + "*4", 1);
        tells(sentence, BIG + "*2=0", 0);
        tells(sentence, "256=0", 0);
    }

    private static void oneOrNothing() {
        String sentence = "of or, and, not, <, = 1 or 0";
        tells(sentence, "7 or 9", 1);
        tells(sentence, "0 or 9", 1);
        tells(sentence, "9 or 0", 1);
        tells(sentence, "0 or 0", 0);
        tells(sentence, "7 and 9", 1);
        tells(sentence, "2 and 4", 1);
        tells(sentence, "0 and 4", 0);
        tells(sentence, "4 and 0", 0);
        tells(sentence, "not 0", 1);
        tells(sentence, "not 7", 0);
        tells(sentence, "not not 7", 1);
        tells(sentence, "2<3", 1);
        tells(sentence, "3<3", 0);
        tells(sentence, "4<3", 0);
        tells(sentence, "3=3", 1);
        tells(sentence, "3=4", 0);
        tells(sentence + ", not less than 0", "(0 or 0)+5", 5);
        tells(sentence + ", not less than 0", "(0 and 1)+5", 5);
        tells(sentence + ", not less than 0", "(not 1)+5", 5);
        tells(sentence + ", not less than 0", "(2<1)+5", 5);
        tells(sentence + ", not less than 0", "(2=1)+5", 5);
        tells(sentence + ", not more than 1", "(2 or 2)+5", 6);
        tells(sentence + ", not more than 1", "(2 and 2)+5", 6);
        tells(sentence + ", not more than 1", "(not 0)+5", 6);
        tells(sentence + ", not more than 1", "(1<2)+5", 6);
        tells(sentence + ", not more than 1", "(2=2)+5", 6);
        tells(sentence + ": an E without them stays", "7", 7);
        tells(sentence + ": an E without them stays", "(7)", 7);
    }

    private static void whatIsTrue() {
        String sentence = "what is not 0 is true";
        tells(sentence, "-1 or 0", 1);
        tells(sentence, "-1 and -1", 1);
        tells(sentence, "1 and -1", 1);
        tells(sentence, "not -1", 0);
        tells(sentence, "256 and 256", 1);
        tells(sentence, "not 256", 0);
        tells(sentence, BIG + "*2 and 1", 1);
        tells(sentence, BIG + "*2 or 0", 1);
        tells(sentence, "not " + BIG + "*2", 0);
        tells(sentence + ", and 0, by wrapping, is not", "not " + BIG + "*4", 1);
    }

    private static void whatBindsStronger() {
        String sentence = "E of ANDS, AND of NOTS, NOT of SUMS, SUM of TERMS, TERM of ONES, from the left";
        tells(sentence, "1 or 0 and 0", 1);
        tells(sentence, "0 and 0 or 1", 1);
        tells(sentence, "not 1 or 1", 1);
        tells(sentence, "not 0 and 0", 0);
        tells(sentence, "not 1<0", 1);
        tells(sentence, "not 5=5", 0);
        tells(sentence, "2<1+4", 1);
        tells(sentence, "5=1+4", 1);
        tells(sentence, "20-5-3", 12);
        tells(sentence, "20-5+3", 18);
        tells(sentence, "2+3*4", 14);
        tells(sentence, "2*3+4", 10);
        tells(sentence, "50-2*3*4", 26);
        tells(sentence, "-3+10", 7);
        tells(sentence, "-2*-3", 6);
        tells(sentence, "10- -3", 13);
        tells(sentence, "--3", 3);
        tells(sentence, "(1 or 0)and 0", 0);
        tells(sentence, "(2+3)*4", 20);
        tells(sentence, "20-(5-3)", 18);
    }

    private static void costsBounds() {
        String sentence = "costs: 0 .. 99, else the bound";
        tells(sentence, "-1", 0);
        tells(sentence, "0", 0);
        tells(sentence, "1", 1);
        tells(sentence, "98", 98);
        tells(sentence, "99", 99);
        tells(sentence, "100", 99);
        tells(sentence, "9999", 99);
        tells(sentence, "-9999", 0);
        tells(sentence, BIG, 99);
        tells(sentence, "-" + BIG, 0);
        run(sentence + ", of each THING ahead of what it SPENDS")
                .make("thing(3, 0, 100)", "thing(2, 0, 100)", "thing(1, 9, 100)")
                .rule("costs 1000;crowds 0;minds 0;")
                .due("day(0, 1)", 198 + 100 + 9)
                .rule("costs -1000;crowds 0;minds 0;")
                .due("day(0, 1)", 2 + 1 + 1);
    }

    private static void crowdsBounds() {
        String sentence = "crowds: 0 .. 99, else the bound";
        int[][] bounds = {{-9999, 0}, {-1, 0}, {0, 0}, {1, 1}, {98, 98}, {99, 99}, {100, 99}, {9999, 99}};
        for (int[] bound : bounds) {
            run(sentence)
                    .make("thing(0, 0, 100)", "thing(0, 0, 100)")
                    .rule("costs 50;crowds " + bound[0] + ";minds 0;")
                    .due("day(0, 1)", 100 + bound[1]);
        }
    }

    private static void mindsBounds() {
        String sentence = "minds: 0 .. 99, else the bound";
        int[][] bounds = {{-9999, 0}, {-1, 0}, {0, 0}, {1, 1}, {98, 98}, {99, 99}, {100, 99}, {9999, 99}};
        for (int[] bound : bounds) {
            run(sentence)
                    .make("thing(0, 0, 100)")
                    .rule("costs 0;crowds 0;minds " + bound[0] + ";")
                    .due("goodShift(0, 0)", 0)
                    .due("goodShift(0, 1)", bound[1]);
        }
        run(sentence + ": the bounds are alike")
                .make("thing(0, 0, 100)")
                .rule("costs 0;crowds 0;minds 130-rest;")
                .due("goodShift(0, 0)", 59)
                .due("goodShift(0, 1)", 71)
                .rule("costs 0;crowds 0;minds 40-rest;")
                .due("goodShift(0, 0)", 40)
                .due("goodShift(0, 1)", 0)
                .rule("costs 0;crowds 0;minds 158-rest;")
                .due("goodShift(0, 0)", 0)
                .due("goodShift(0, 1)", 99);
    }

    private static void namesInCosts() {
        run("costs (day)")
                .make("thing(0, 0, 100)")
                .rule("costs day;crowds 0;minds 0;")
                .due("day(0, 1)", 0)
                .due("day(99, 1)", 99)
                .due("day(399, 1)", 99)
                .rule("costs day-300;crowds 0;minds 0;")
                .due("day(399, 1)", 99)
                .rule("costs day-310;crowds 0;minds 0;")
                .due("day(399, 1)", 89);
        run("costs (thing: its number; many: how many come that DAY)")
                .make("thing(0, 0, 6000)", "thing(0, 0, 6000)", "thing(0, 0, 6000)", "thing(0, 0, 6000)",
                        "thing(0, 0, 6000)", "thing(0, 0, 6000)")
                .rule("costs 2*thing;crowds 0;minds 0;")
                .due("day(0, 1)", 30)
                .rule("costs many;crowds 0;minds 0;")
                .due("day(0, 1)", 36)
                .make("set(3, 5, 1)", "set(3, 0, 2)")
                .due("day(0, 1)", 16)
                .due("day(1, 1)", 1)
                .rule("costs thing;crowds 0;minds 0;")
                .due("day(1, 1)", 5)
                .due("day(2, 1)", 0);
        run("costs (period: PERIOD; number: NUMBER)")
                .make("thing(0, 0, 100)", "thing(0, 9, 6059)")
                .rule("costs period;crowds 0;minds 0;")
                .due("day(58, 1)", 1)
                .due("day(59, 1)", 61)
                .rule("costs number;crowds 0;minds 0;")
                .due("day(58, 1)", 0)
                .due("day(59, 1)", 9);
    }

    private static void restInCosts() {
        run("costs (rest: on how many DAYS of THE YEAR directly ahead of it nothing COMES)")
                .make("thing(0, 0, 6059)")
                .rule("costs rest;crowds 0;minds 0;")
                .due("day(59, 1)", 59)
                .due("day(119, 1)", 59)
                .make("set(3, 0, 0)")
                .due("day(0, 1)", 0)
                .due("day(60, 1)", 59)
                .make("set(3, 0, 1)")
                .due("day(1, 1)", 1)
                .make("set(2, 0, 1)")
                .due("day(1, 1)", 1)
                .due("day(2, 1)", 0)
                .due("day(399, 1)", 0);
        // on no day of its round but 399 is it day 0 of a week
        run("costs (rest): all DAYS of THE YEAR are ahead of DAY 399")
                .make("thing(4, 0, 6039)", "set(0, 0, 126)")
                .due("often(0, 400)", 1)
                .rule("costs rest-300;crowds 0;minds 0;")
                .due("day(399, 1)", 100)
                .rule("costs rest-310;crowds 0;minds 0;")
                .due("day(399, 1)", 90);
        run("costs (rest): others that come end it, too")
                .make("thing(0, 0, 6050)", "thing(0, 0, 6040)")
                .rule("costs rest;crowds 0;minds 0;")
                .due("day(40, 1)", 40)
                .due("day(50, 1)", 9)
                .due("day(100, 1)", 49);
    }

    private static void namesInCrowds() {
        run("crowds (day; many; rest; the others 0)")
                .make("thing(0, 9, 6030)", "thing(0, 8, 6030)", "thing(0, 7, 6030)", "thing(0, 6, 6030)",
                        "thing(0, 5, 6030)", "thing(0, 4, 6030)")
                .rule("costs 0;crowds day;minds 0;")
                .due("day(30, 1)", 30)
                .due("day(90, 1)", 90)
                .rule("costs 0;crowds many;minds 0;")
                .due("day(30, 1)", 6)
                .make("set(3, 0, 0)", "set(3, 1, 0)")
                .due("day(0, 1)", 2)
                .due("day(30, 1)", 4)
                .rule("costs 0;crowds thing+period+number+9;minds 0;")
                .due("day(0, 1)", 9)
                .due("day(30, 1)", 9);
    }

    private static void restInCrowds() {
        run("crowds (rest)")
                .make("thing(0, 0, 6059)", "thing(0, 0, 6059)")
                .rule("costs 0;crowds rest;minds 0;")
                .due("day(59, 1)", 59)
                .make("set(3, 0, 0)", "set(3, 1, 0)")
                .due("day(0, 1)", 0)
                .due("day(60, 1)", 59)
                .make("thing(0, 0, 6059)")
                .due("day(60, 1)", 0);
    }

    private static void namesInMinds() {
        run("minds (thing; period; number; day, many 0)")
                .make("thing(0, 0, 100)", "thing(0, 9, 6059)")
                .rule("costs 0;crowds 0;minds 20*thing+7;")
                .due("goodShift(0, 1)", 7)
                .due("goodShift(1, 1)", 27)
                .rule("costs 0;crowds 0;minds period;")
                .due("goodShift(0, 1)", 1)
                .due("goodShift(1, 1)", 60)
                .rule("costs 0;crowds 0;minds number;")
                .due("goodShift(0, 1)", 0)
                .due("goodShift(1, 1)", 9)
                .rule("costs 0;crowds 0;minds day+many+3;")
                .due("goodShift(0, 1)", 3)
                .due("goodShift(1, 1)", 3);
    }

    private static void restInMinds() {
        run("minds (rest: by how many DAYS it is shifted)")
                .make("thing(0, 0, 6059)")
                .rule("costs 0;crowds 0;minds 59-rest;")
                .due("goodShift(0, 0)", 59)
                .due("goodShift(0, 1)", 0)
                .rule("costs 0;crowds 0;minds rest+4;")
                .due("goodShift(0, 0)", 0)
                .due("goodShift(0, 1)", 4)
                .rule("costs 0;crowds 0;minds(rest<1)*9;")
                .due("goodShift(0, 0)", 1)
                .due("goodShift(0, 1)", 0);
    }

    private static void crowdsOfTwoOrMore() {
        run("A DAY costs SPENDS of all that COME, together, and crowds, if two or more do")
                .make("thing(0, 0, 200)", "thing(0, 0, 300)", "thing(0, 0, 500)")
                .rule("costs 7;crowds 40;minds 0;")
                .due("day(1, 1)", 0)
                .due("day(2, 1)", 7)
                .due("day(6, 1)", 54)
                .due("day(30, 1)", 61);
    }

    private static void theFirstRule() {
        Run run = run("TEXT 0, at first THE RULE, is: costs 1 ; crowds many * many ; minds rest ;");
        run.due("count(4)", 0);
        for (int many = 1; many <= 6; many++) {
            run.make("thing(0, 0, 6000)").due("day(0, 1)", many == 1 ? 1 : many + many * many);
        }
        run.anew()
                .make("thing(0, 0, 6000)", "thing(0, 0, 6000)")
                .due("goodShift(0, 0)", 1)
                .due("goodShift(0, 1)", 7 + 7 + 1)
                .rule("costs 0;crowds 0;minds 0;")
                .due("goodShift(0, 1)", 0)
                .due("force(0)", 1)
                .due("goodShift(0, 1)", 15);
    }

    private static void noNamesAreLeft() {
        run("crowds (the others 0), minds (day, many 0), whatever was told ahead")
                .make("thing(0, 9, 6000)", "thing(0, 8, 6000)")
                .rule("costs thing+period+number;crowds thing+period+number;minds day+many;")
                .due("goodShift(1, 1)", 7 * 69 + 6 * 69)
                .due("day(0, 1)", 69 + 69)
                .due("goodShift(0, 1)", 6 * 69 + 7 * 69)
                .due("year(0)", 14 * 69);
    }
}
