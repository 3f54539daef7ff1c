/**
 * Each sentence that names a boundary case: the SHEETS and what the host does with them (part 3 of
 * the Terms, promises 27 to 31).
 */
public final class BoundsOfSheetsTest {
    private static final Check CHECK = new Check("BoundsOfSheetsTest");

    public static void main(String[] args) {
        fourSheets();
        missingAtFirst();
        threeSorts();
        fortyItems();
        itemsAreZero();
        missingAgain();
        sheetRefusesInOrder();
        bytesKeep8Bits();
        shortsKeep16Bits();
        intsKeepAll();
        placesOfACell();
        cellRefusesInOrder();
        copiesOfNothing();
        copiesUpToTheEnd();
        copiesAsTheyWere();
        copyOutside();
        copyRefusesInOrder();
        thingsThreeByThree();
        thingsOfNone();
        thingsSixAtMost();
        othersAreLeftOut();
        whatStoodAheadCame();
        thingsBySort();
        thingsRefuseInOrder();
        takenByKinds();
        takenRefusesInOrder();
        CHECK.end();
    }

    private static Run run(String sentence) {
        return new Run(CHECK, sentence);
    }

    private static void fourSheets() {
        run("SHEETS 0 .. 3")
                .allDue(-2, "sheet(-1, 0, 1)", "sheet(4, 0, 1)", "sheet(MIN, 0, 1)", "sheet(MAX, 0, 1)",
                        "sheet(4, -1, 0)", "cell(-1, 0, 0)", "cell(4, 0, 0)", "cell(MIN, 0, 0)", "cell(MAX, 0, 0)")
                .allDue(1, "sheet(0, 0, 1)", "sheet(1, 1, 1)", "sheet(2, 2, 1)", "sheet(3, 0, 1)")
                .make("cell(0, 0, 10)", "cell(1, 0, 11)", "cell(2, 0, 12)", "cell(3, 0, 13)")
                .items(0, 1, 0, 10)
                .items(2, 1, 2, 12)
                .items(3, 1, 0, 13)
                .lay(1, 1, 14)
                .items(1, 0, 1, 14);
    }

    private static void missingAtFirst() {
        run("SHEETS are missing (as all are at first)")
                .allDue(-11, "cell(0, 0, 0)", "cell(1, 0, 0)", "cell(2, 0, 0)", "cell(3, 0, 0)", "copy(0, 0, 1, 0, 0)",
                        "things(0, 0, 0, 0)", "things(3, 2, 0, 0)", "diary(0, 0, 0)", "diary(3, 0, 0)");
    }

    private static void threeSorts() {
        run("SHEETS: of sort 0 bytes, 1 shorts, 2 ints")
                .allDue(-2, "sheet(0, -2, 1)", "sheet(0, 3, 1)", "sheet(0, MIN, 1)", "sheet(0, MAX, 1)")
                .due("cell(0, 0, 0)", -11)
                .due("sheet(0, 0, 1)", 1)
                .due("things(0, 0, 0, 0)", 0)
                .allDue(-13, "things(0, 1, 0, 0)", "things(0, 2, 0, 0)")
                .due("sheet(0, 1, 1)", 1)
                .due("things(0, 1, 0, 0)", 0)
                .allDue(-13, "things(0, 0, 0, 0)", "things(0, 2, 0, 0)")
                .due("sheet(0, 2, 1)", 1)
                .due("things(0, 2, 0, 0)", 0)
                .allDue(-13, "things(0, 0, 0, 0)", "things(0, 1, 0, 0)");
    }

    private static void fortyItems() {
        for (int sort = 0; sort <= 2; sort++) {
            run("sheet: BAD: n above 40; -14: a size below 0")
                    .due("sheet(0, " + sort + ", 40)", 1)
                    .due("cell(0, 39, 5)", 1)
                    .due("cell(0, 40, 5)", -12)
                    .due("copy(0, 0, 0, 0, 40)", 40)
                    .allDue(-2, "sheet(0, " + sort + ", 41)", "sheet(0, " + sort + ", MAX)")
                    .allDue(-14, "sheet(0, " + sort + ", -1)", "sheet(0, " + sort + ", MIN)")
                    .due("cell(0, 39, 5)", 1)
                    .due("sheet(0, " + sort + ", 1)", 1)
                    .due("cell(0, 0, 5)", 1)
                    .due("cell(0, 1, 5)", -12)
                    .due("sheet(0, " + sort + ", 0)", 1)
                    .due("cell(0, 0, 5)", -12)
                    .due("copy(0, 0, 0, 0, 0)", 0)
                    .due("diary(0, 0, 0)", -2);
        }
    }

    private static void itemsAreZero() {
        for (int sort = 0; sort <= 2; sort++) {
            run("sheet: a row of n of a sort, all 0")
                    .make("sheet(0, " + sort + ", 3)")
                    .items(0, 1, sort, 0, 0, 0)
                    .lay(0, sort, 5, 6, 7)
                    .items(0, 1, sort, 5, 6, 7)
                    .make("sheet(0, " + sort + ", 3)")
                    .items(0, 1, sort, 0, 0, 0)
                    .lay(0, sort, 5, 6, 7)
                    .make("sheet(0, " + sort + ", 2)", "sheet(0, " + sort + ", 4)")
                    .items(0, 1, sort, 0, 0, 0, 0);
        }
        run("film makes all of its SHEET anew: a later row is all 0")
                .make("thing(0, 0, 6039)", "film(0, 0, 20)", "sheet(0, 1, 8)")
                .items(0, 1, 1, 0, 0, 0, 0, 0, 0, 0, 0);
    }

    private static void missingAgain() {
        Run run = run("sheet: or missing (sort -1: n does not matter): 1");
        for (String n : new String[] {"0", "-1", "40", "41", "MIN", "MAX"}) {
            run.make("sheet(2, 1, 3)")
                    .due("cell(2, 0, 0)", 1)
                    .due("sheet(2, -1, " + n + ")", 1)
                    .due("cell(2, 0, 0)", -11)
                    .due("sheet(2, -1, " + n + ")", 1);
        }
    }

    private static void sheetRefusesInOrder() {
        run("sheet: BAD: no such SHEET, sort; n above 40; -14")
                .allDue(-2, "sheet(4, 0, -1)", "sheet(-1, 0, -1)", "sheet(0, 3, -1)", "sheet(0, -2, -1)",
                        "sheet(4, 3, -1)", "sheet(0, -2, MIN)", "sheet(0, 0, 41)")
                .allDue(-14, "sheet(0, 0, -1)", "sheet(3, 2, MIN)");
    }

    /** One item: as a diary it is a day up to 399 or none; as a begin it is the day itself. */
    private static void kept(String sentence, int sort, int v, int want) {
        Run run = run(sentence + ": " + v).make("thing(0, 0, 6000)", "sheet(0, " + sort + ", 2)");
        run.due("cell(0, 0, " + v + ")", 1);
        boolean isDay = want >= 0 && want <= 399;
        if (isDay && want < 60) {
            run.make("set(3, 0, " + want + ")");
        }
        run.make("sheet(1, " + sort + ", 1)", "copy(0, 0, 1, 0, 1)");
        run.due("diary(1, 0, 0)", isDay ? want < 60 ? 1 : 0 : -2);
        if (isDay && want > 0) {
            run.make("cell(0, 1, " + v + ")", "cell(0, 0, " + (want - 1) + ")").due("rounds(0, 0)", 1);
        }
    }

    private static void bytesKeep8Bits() {
        String sentence = "cell: of bytes its lowest 8 bits";
        int[][] known = {{0, 0}, {59, 59}, {127, 127}, {128, -128}, {200, -56}, {255, -1}, {256, 0}, {257, 1},
            {256 + 59, 59}, {-1, -1}, {-128, -128}, {-129, 127}, {-256, 0}, {-255, 1}, {65536 + 7, 7},
            {Integer.MIN_VALUE, 0}, {Integer.MIN_VALUE + 9, 9}, {Integer.MAX_VALUE, -1}};
        for (int[] one : known) {
            kept(sentence, 0, one[0], one[1]);
        }
    }

    private static void shortsKeep16Bits() {
        String sentence = "cell: of shorts its lowest 16 bits";
        int[][] known = {{0, 0}, {59, 59}, {127, 127}, {128, 128}, {255, 255}, {256, 256}, {399, 399}, {400, 400},
            {32767, 32767}, {32768, -32768}, {65535, -1}, {65536, 0}, {65536 + 58, 58}, {65536 + 399, 399}, {-1, -1},
            {-65536, 0}, {-65535, 1}, {Integer.MIN_VALUE, 0}, {Integer.MIN_VALUE + 9, 9}, {Integer.MAX_VALUE, -1}};
        for (int[] one : known) {
            kept(sentence, 1, one[0], one[1]);
        }
    }

    private static void intsKeepAll() {
        String sentence = "cell: of ints all of it";
        int[] known = {0, 59, 255, 256, 399, 400, 65535, 65536, 65536 + 58, -1, -65536, Integer.MIN_VALUE,
            Integer.MAX_VALUE};
        for (int one : known) {
            kept(sentence, 2, one, one);
        }
    }

    private static void placesOfACell() {
        run("cell: Item i of a SHEET becomes v: 1. -12: a place outside")
                .make("sheet(0, 1, 3)")
                .allDue(-12, "cell(0, -1, 7)", "cell(0, 3, 7)", "cell(0, 40, 7)", "cell(0, MIN, 7)", "cell(0, MAX, 7)")
                .items(0, 1, 1, 0, 0, 0)
                .due("cell(0, 0, 5)", 1)
                .due("cell(0, 2, 7)", 1)
                .items(0, 1, 1, 5, 0, 7)
                .make("sheet(0, 1, 0)")
                .allDue(-12, "cell(0, 0, 7)", "cell(0, -1, 7)");
    }

    private static void cellRefusesInOrder() {
        run("cell: BAD: no such SHEET; -11; -12")
                .allDue(-2, "cell(4, -1, 0)", "cell(-1, 40, 0)")
                .allDue(-11, "cell(0, -1, 0)", "cell(3, 40, 0)", "cell(0, 0, 0)")
                .make("sheet(0, 0, 1)")
                .allDue(-12, "cell(0, -1, 0)", "cell(0, 1, 0)");
    }

    private static void copiesOfNothing() {
        run("copy: n numbers: none")
                .lay(0, 1, 5, 6, 7)
                .lay(2, 1, 8, 9)
                .allDue(0, "copy(0, 0, 2, 0, 0)", "copy(0, 3, 2, 2, 0)", "copy(0, 3, 2, 0, 0)", "copy(0, 0, 2, 2, 0)")
                .allDue(-12, "copy(0, 4, 2, 0, 0)", "copy(0, 0, 2, 3, 0)", "copy(0, -1, 2, 0, 0)",
                        "copy(0, 0, 2, -1, 0)")
                .items(2, 3, 1, 8, 9)
                .items(0, 3, 1, 5, 6, 7)
                .make("sheet(2, 1, 0)")
                .due("copy(0, 0, 2, 0, 0)", 0)
                .due("copy(2, 0, 0, 3, 0)", 0)
                .due("copy(2, 0, 2, 0, 0)", 0)
                .due("copy(2, 0, 0, 0, 1)", -12);
    }

    private static void copiesUpToTheEnd() {
        for (int sort = 0; sort <= 2; sort++) {
            run("copy: from item i on, to another one's item j on")
                    .lay(0, sort, 5, 6, 7)
                    .lay(2, sort, 11, 12, 13, 14)
                    .due("copy(0, 2, 2, 3, 1)", 1)
                    .items(2, 3, sort, 11, 12, 13, 7)
                    .due("copy(0, 0, 2, 0, 3)", 3)
                    .items(2, 3, sort, 5, 6, 7, 7)
                    .due("copy(2, 1, 0, 0, 2)", 2)
                    .items(0, 3, sort, 6, 7, 7)
                    .due("copy(2, 0, 0, 1, 2)", 2)
                    .items(0, 3, sort, 6, 5, 6);
        }
    }

    private static void copiesAsTheyWere() {
        run("copy: (as they were): onto itself")
                .lay(0, 1, 5, 6, 7, 8)
                .due("copy(0, 0, 0, 1, 3)", 3)
                .items(0, 1, 1, 5, 5, 6, 7)
                .due("copy(0, 1, 0, 0, 3)", 3)
                .items(0, 1, 1, 5, 6, 7, 7)
                .due("copy(0, 0, 0, 2, 2)", 2)
                .items(0, 1, 1, 5, 6, 5, 6)
                .due("copy(0, 0, 0, 0, 4)", 4)
                .items(0, 1, 1, 5, 6, 5, 6);
    }

    private static void copyOutside() {
        run("copy: -12 (also with n below 0)")
                .lay(0, 1, 5, 6, 7)
                .lay(2, 1, 8, 9)
                .allDue(-12, "copy(0, -1, 2, 0, 1)", "copy(0, 3, 2, 0, 1)", "copy(0, 2, 2, 0, 2)",
                        "copy(0, 0, 2, -1, 1)", "copy(0, 0, 2, 2, 1)", "copy(0, 0, 2, 1, 2)", "copy(0, 0, 2, 0, 3)",
                        "copy(2, 0, 0, 0, 3)", "copy(0, 0, 2, 0, -1)", "copy(0, 1, 2, 1, -1)", "copy(0, 0, 2, 0, MIN)",
                        "copy(0, 0, 2, 0, MAX)", "copy(0, 1, 2, 1, MAX)", "copy(0, MAX, 2, 0, 1)",
                        "copy(0, MAX, 2, MAX, MAX)", "copy(0, MIN, 2, 0, 1)", "copy(0, MIN, 2, MIN, MIN)",
                        "copy(0, MIN, 2, 0, MAX)", "copy(0, 0, 2, MAX, 1)", "copy(0, 0, 2, MIN, 0)")
                .items(0, 1, 1, 5, 6, 7)
                .items(2, 1, 1, 8, 9);
    }

    private static void copyRefusesInOrder() {
        run("copy: BAD: no such SHEET; -11; -13: they are of unlike sorts; -12")
                .lay(0, 0, 5, 6)
                .lay(1, 1, 7, 8)
                .allDue(-2, "copy(4, 0, 0, 0, 1)", "copy(0, 0, 4, 0, 1)", "copy(-1, 0, 2, 0, -1)", "copy(2, 0, -1, 9, 1)",
                        "copy(4, 0, 2, 0, 1)", "copy(2, 0, MAX, 0, 1)", "copy(MIN, 0, 1, 0, 1)")
                .allDue(-11, "copy(2, 0, 0, 0, 1)", "copy(0, 0, 2, 0, 1)", "copy(2, 0, 3, 0, 1)", "copy(2, 0, 2, 0, 0)",
                        "copy(2, -1, 0, 0, 1)", "copy(0, 0, 2, 0, -1)")
                .allDue(-13, "copy(0, 0, 1, 0, 1)", "copy(1, 0, 0, 0, 1)", "copy(0, -1, 1, 0, 1)",
                        "copy(0, 0, 1, 9, 1)", "copy(0, 0, 1, 0, -1)", "copy(0, 0, 1, 0, 0)")
                .make("sheet(2, 2, 2)")
                .allDue(-13, "copy(0, 0, 2, 0, 1)", "copy(1, 0, 2, 0, 1)", "copy(2, 0, 0, 0, 1)", "copy(2, 0, 1, 0, 1)")
                .items(0, 3, 0, 5, 6)
                .items(1, 3, 1, 7, 8)
                .items(2, 3, 2, 0, 0);
    }

    private static void thingsThreeByThree() {
        run("things: from one on, three by three (as of thing()): how many came")
                .lay(0, 1, 9, 5, 9, 6059, 0, 0, 100, 9, 9)
                .due("things(0, 1, 1, 2)", 2)
                .due("count(0)", 2)
                .due("told(0, 0)", 5)
                .due("told(0, 1)", 9)
                .due("told(0, 2)", 60)
                .due("told(0, 3)", 59)
                .due("told(1, 2)", 1)
                .due("things(0, 1, 4, 1)", 1)
                .due("count(0)", 3);
        run("things: the last three of a full SHEET")
                .make("sheet(0, 2, 40)", "cell(0, 39, 304)")
                .due("things(0, 2, 37, 1)", 1)
                .due("told(0, 3)", 4)
                .due("things(0, 2, 38, 1)", -12);
    }

    private static void thingsOfNone() {
        run("things: n of them (0 .. 6): none")
                .lay(0, 1, 0, 0, 100)
                .due("things(0, 1, 0, 0)", 0)
                .due("count(0)", 0)
                .make("sheet(0, 1, 0)")
                .due("things(0, 1, 0, 1)", -12);
    }

    private static void thingsSixAtMost() {
        Run run = run("things: n of them (0 .. 6)").make("sheet(0, 1, 21)");
        for (int i = 0; i < 7; i++) {
            run.make("cell(0, " + (3 * i + 2) + ", " + (100 * i + 100) + ")");
        }
        run.allDue(-2, "things(0, 1, 0, 7)", "things(0, 1, 0, -1)", "things(0, 1, 0, MIN)", "things(0, 1, 0, MAX)")
                .due("count(0)", 0)
                .due("things(0, 1, 3, 6)", 6)
                .due("count(0)", 6)
                .due("told(0, 2)", 2)
                .due("told(5, 2)", 7);
    }

    private static void othersAreLeftOut() {
        run("things: (others are left out): what thing() refuses")
                .lay(0, 1, -1, 0, 100, 6, 0, 200, 0, -1, 300, 0, 10, 400, 0, 0, 99, 1, 2, 503)
                .due("things(0, 1, 0, 6)", 1)
                .due("count(0)", 1)
                .due("told(0, 0)", 1)
                .due("told(0, 2)", 5)
                .lay(0, 1, 0, 0, 160, 0, 0, 6100, 0, 0, -100)
                .due("things(0, 1, 0, 3)", 0)
                .due("count(0)", 1);
        run("things: (others are left out): by FULL, too")
                .make("thing(0, 0, 100)", "thing(0, 0, 100)", "thing(0, 0, 100)", "thing(0, 0, 100)")
                .lay(0, 1, 0, 0, 200, 0, 0, 99, 0, 0, 300, 0, 0, 400)
                .due("things(0, 1, 0, 4)", 2)
                .due("count(0)", 6)
                .due("told(5, 2)", 3)
                .due("things(0, 1, 0, 4)", 0)
                .due("count(0)", 6);
    }

    private static void whatStoodAheadCame() {
        String sentence = "things: -12: what stood ahead came";
        run(sentence).lay(0, 1, 0, 0, 200, 0, 0, 300, 0, 0).due("things(0, 1, 0, 3)", -12)
                .due("count(0)", 2).due("told(1, 2)", 3);
        run(sentence).lay(0, 1, 0, 0, 200, 0, 0, 300, 0).due("things(0, 1, 0, 6)", -12).due("count(0)", 2);
        run(sentence).lay(0, 1, 0, 0, 200, 0, 0, 300).due("things(0, 1, 0, 3)", -12).due("count(0)", 2)
                .due("things(0, 1, 3, 2)", -12).due("count(0)", 3).due("told(2, 2)", 3);
        run(sentence + ": others are left out").lay(0, 1, 0, 0, 99, 0, 0, 300).due("things(0, 1, 0, 3)", -12)
                .due("count(0)", 1).due("told(0, 2)", 3);
        run(sentence + ": nothing did").lay(0, 1, 0, 0, 200, 0, 0, 300)
                .allDue(-12, "things(0, 1, -1, 1)", "things(0, 1, -3, 3)", "things(0, 1, 4, 1)", "things(0, 1, 6, 1)",
                        "things(0, 1, MIN, 6)", "things(0, 1, MAX, 1)", "things(0, 1, MAX, 6)")
                .due("count(0)", 0);
        run(sentence + ": though none has room").make("thing(0, 0, 100)", "thing(0, 0, 100)", "thing(0, 0, 100)",
                "thing(0, 0, 100)", "thing(0, 0, 100)", "thing(0, 0, 100)").lay(0, 1, 0, 0, 200)
                .due("things(0, 1, 0, 2)", -12).due("things(0, 1, 0, 1)", 0).due("count(0)", 6);
    }

    private static void thingsBySort() {
        run("things: by a SHEET that is taken for one of a sort")
                .lay(0, 0, 3, 9, 127)
                .due("things(0, 0, 0, 1)", 1)
                .due("told(0, 3)", 27)
                .lay(1, 1, 3, 9, 6059)
                .due("things(1, 1, 0, 1)", 1)
                .lay(2, 2, 3, 9, 6058)
                .due("things(2, 2, 0, 1)", 1)
                .due("told(2, 3)", 58)
                .allDue(-13, "things(0, 1, 0, 1)", "things(0, 2, 0, 1)", "things(1, 0, 0, 1)", "things(1, 2, 0, 1)",
                        "things(2, 0, 0, 1)", "things(2, 1, 0, 1)")
                .due("count(0)", 3);
    }

    private static void thingsRefuseInOrder() {
        run("things: BAD: no such SHEET, sort, n; -13; -11; -12")
                .lay(0, 0, 0, 0, 100)
                .allDue(-2, "things(-1, 0, 0, 1)", "things(4, 0, 0, 1)", "things(0, -1, 0, 1)", "things(0, 3, 0, 1)",
                        "things(MIN, 0, 0, 1)", "things(0, MAX, 0, 1)", "things(0, 1, 0, 7)", "things(1, 0, 0, 7)",
                        "things(1, 3, 0, 1)", "things(0, 0, -1, -1)", "things(1, -1, 0, 0)")
                .allDue(-13, "things(0, 1, 0, 1)", "things(0, 2, -1, 1)", "things(0, 1, 3, 1)", "things(0, 1, 0, 0)")
                .allDue(-11, "things(1, 0, 0, 1)", "things(1, 1, -1, 1)", "things(1, 2, 0, 0)", "things(3, 2, MAX, 6)")
                .allDue(-12, "things(0, 0, 1, 1)", "things(0, 0, -1, 1)")
                .due("count(0)", 0);
    }

    private static void takenByKinds() {
        Run run = run("taken: for one of KIND k (0 .. 5), or one under that one (also by others between)");
        int[][] above = {{0}, {1, 0}, {2, 0}, {3, 1, 0}, {4, 2, 0}, {5, 0}};
        for (int kind = 0; kind <= 5; kind++) {
            run.make("thing(" + kind + ", " + (9 - kind) + ", 100)");
            for (int k = 0; k <= 5; k++) {
                boolean under = false;
                for (int one : above[kind]) {
                    under |= one == k;
                }
                run.due("taken(" + kind + ", " + k + ")", under ? 9 - kind : -13);
            }
        }
        run.make("set(1, 3, 0)").due("taken(3, 0)", 0).due("taken(3, 1)", 0);
    }

    private static void takenRefusesInOrder() {
        run("taken: BAD: k; -11: no such THING; -13")
                .allDue(-2, "taken(0, -1)", "taken(0, 6)", "taken(9, 6)", "taken(-1, MIN)", "taken(0, MAX)")
                .allDue(-11, "taken(0, 0)", "taken(0, 5)")
                .make("thing(0, 0, 100)")
                .allDue(-2, "taken(0, -1)", "taken(0, 6)", "taken(1, 6)")
                .allDue(-11, "taken(1, 0)", "taken(-1, 0)", "taken(6, 5)", "taken(MIN, 1)", "taken(MAX, 5)")
                .allDue(-13, "taken(0, 1)", "taken(0, 5)")
                .due("taken(0, 0)", 0);
    }
}
