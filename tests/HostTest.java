/** Promises 27 to 31: sheet, cell, copy, things, taken. */
public final class HostTest {
    private static final Check CHECK = new Check("HostTest");

    public static void main(String[] args) {
        sheetMakesARow();
        sheetRefuses();
        cellCutsToTheSort();
        cellRefuses();
        copyCopies();
        copyRefuses();
        thingsCome();
        thingsRefuse();
        takenByKinds();
        takenRefuses();
        CHECK.end();
    }

    private static void sheetMakesARow() {
        EveryNinth x = new EveryNinth();
        x.thing(0, 0, 6000);
        for (int sort = 0; sort <= 2; sort++) {
            CHECK.due("sheet(0, sort, 40)", x.sheet(0, sort, 40), 1);
            CHECK.due("item 39", x.cell(0, 39, 7), 1);
            CHECK.due("item 40", x.cell(0, 40, 7), -12);
            CHECK.due("sheet(0, sort, 1)", x.sheet(0, sort, 1), 1);
            CHECK.due("item 1", x.cell(0, 1, 7), -12);
            CHECK.due("all 0: it tells day 0 alone", x.diary(0, 0, 0), 1);
            CHECK.due("sheet(0, sort, 0)", x.sheet(0, sort, 0), 1);
            CHECK.due("item 0", x.cell(0, 0, 7), -12);
        }
        x.sheet(1, 2, 3);
        x.cell(1, 1, 1);
        CHECK.due("the items are 0 again", x.sheet(1, 2, 2), 1);
        x.cell(1, 0, -1);
        CHECK.due("day -1", x.diary(1, 0, 0), -2);
        x.sheet(1, 2, 1);
        CHECK.due("day 0", x.diary(1, 0, 0), 1);
        CHECK.due("missing, n does not matter", x.sheet(1, -1, 41), 1);
        CHECK.due("it is", x.cell(1, 0, 0), -11);
        CHECK.due("missing, n does not matter", x.sheet(1, -1, -7), 1);
        CHECK.due("missing, n does not matter", x.sheet(1, -1, Integer.MIN_VALUE), 1);
        CHECK.due("sheet 3", x.sheet(3, 0, 2), 1);
        CHECK.due("the others stay missing", x.cell(2, 0, 0), -11);
    }

    private static void sheetRefuses() {
        EveryNinth x = new EveryNinth();
        x.sheet(0, 1, 2);
        int[][] bad = {
            {-1, 0, 1}, {4, 0, 1}, {Integer.MIN_VALUE, -1, 0}, {0, -2, 1}, {0, 3, 1}, {0, 3, -1}, {4, 0, -1},
            {0, 0, 41}, {0, 2, Integer.MAX_VALUE}, {0, Integer.MAX_VALUE, 1}
        };
        for (int[] b : bad) {
            CHECK.due("sheet(" + b[0] + ", " + b[1] + ", " + b[2] + ")", x.sheet(b[0], b[1], b[2]), -2);
        }
        CHECK.due("sheet(0, 0, -1)", x.sheet(0, 0, -1), -14);
        CHECK.due("sheet(0, 2, MIN)", x.sheet(0, 2, Integer.MIN_VALUE), -14);
        CHECK.due("it is as it was", x.cell(0, 1, 5), 1);
        CHECK.due("it is as it was", x.cell(0, 2, 5), -12);
        CHECK.due("it is as it was", x.things(0, 1, 0, 0), 0);
    }

    /** The one item of a sheet, read back as the one day of a diary. */
    private static void cut(int sort, int v, int kept) {
        EveryNinth x = new EveryNinth();
        x.thing(0, 0, 6000);
        x.set(3, 0, kept);
        x.sheet(0, sort, 1);
        CHECK.due("cell(0, 0, " + v + ")", x.cell(0, 0, v), 1);
        boolean isDay = kept >= 0 && kept <= 399;
        boolean isBegin = kept >= 0 && kept <= 59;
        CHECK.due("sort " + sort + " of " + v, x.diary(0, 0, 0), isBegin ? 1 : isDay ? 0 : -2);
    }

    private static void cellCutsToTheSort() {
        cut(0, 59, 59);
        cut(0, 256 + 17, 17);
        cut(0, -256 + 17, 17);
        cut(0, 128, -128);
        cut(0, 255, -1);
        cut(0, Integer.MIN_VALUE, 0);
        cut(1, 59, 59);
        cut(1, 65536 + 17, 17);
        cut(1, -65536 + 17, 17);
        cut(1, 32768, -32768);
        cut(1, 65535, -1);
        cut(1, 256 + 17, 256 + 17);
        cut(2, 59, 59);
        cut(2, 65536 + 17, 65536 + 17);
        cut(2, 256, 256);
        cut(2, Integer.MIN_VALUE, Integer.MIN_VALUE);
        EveryNinth x = new EveryNinth();
        x.thing(0, 0, 100);
        Check.lay(x, 0, 1, 0, 300);
        CHECK.due("a short may be 300", x.rounds(0, 1), 0);
        Check.lay(x, 0, 0, 0, 300);
        CHECK.due("a byte of 300 is 44", x.rounds(0, 0), 1L << 43);
    }

    private static void cellRefuses() {
        EveryNinth x = new EveryNinth();
        x.sheet(0, 0, 3);
        CHECK.due("cell(-1, 0, 0)", x.cell(-1, 0, 0), -2);
        CHECK.due("cell(4, 0, 0)", x.cell(4, 0, 0), -2);
        CHECK.due("cell(MAX, 0, 0)", x.cell(Integer.MAX_VALUE, 0, 0), -2);
        CHECK.due("cell(1, 0, 0)", x.cell(1, 0, 0), -11);
        CHECK.due("cell(1, -1, 0): missing ahead of outside", x.cell(1, -1, 0), -11);
        CHECK.due("cell(0, -1, 0)", x.cell(0, -1, 0), -12);
        CHECK.due("cell(0, 3, 0)", x.cell(0, 3, 0), -12);
        CHECK.due("cell(0, MIN, 0)", x.cell(0, Integer.MIN_VALUE, 0), -12);
        CHECK.due("cell(0, MAX, 0)", x.cell(0, Integer.MAX_VALUE, 0), -12);
        CHECK.due("cell(0, 2, 0)", x.cell(0, 2, 0), 1);
    }

    /** The sheet tells just these days. */
    private static void tells(EveryNinth x, int sheet, int... days) {
        CHECK.due("items", x.cell(sheet, days.length, 0), -12);
        for (int period = 1; period <= 60; period++) {
            boolean same = true;
            for (int i = 1; i < days.length; i++) {
                same &= days[i] - days[i - 1] == period;
            }
            CHECK.due("period " + period, x.rounds(sheet, 0) >> (period - 1) & 1, same ? 1 : 0);
        }
    }

    private static void copyCopies() {
        EveryNinth x = new EveryNinth();
        Check.lay(x, 0, 1, 10, 20, 30, 40, 50);
        Check.lay(x, 1, 1, 1, 2, 3);
        CHECK.due("copy(0, 1, 1, 0, 3)", x.copy(0, 1, 1, 0, 3), 3);
        tells(x, 1, 20, 30, 40);
        CHECK.due("of none", x.copy(0, 5, 1, 3, 0), 0);
        tells(x, 1, 20, 30, 40);
        Check.lay(x, 2, 2, 5, 7, 9, 11, 13, 15);
        // 5 7 5 7 9 11: as they were, not as they become
        CHECK.due("onto itself, forward", x.copy(2, 0, 2, 2, 4), 4);
        CHECK.due("5 7 5 ..", x.rounds(2, 0), -4611686018427387904L);
        CHECK.due("its tail", x.sheet(3, 2, 4), 1);
        CHECK.due("its tail", x.copy(2, 2, 3, 0, 4), 4);
        tells(x, 3, 5, 7, 9, 11);
        CHECK.due("onto itself, backward", x.copy(2, 2, 2, 0, 4), 4);
        // 5 7 9 11 9 11
        CHECK.due("its head", x.copy(2, 0, 3, 0, 4), 4);
        tells(x, 3, 5, 7, 9, 11);
        CHECK.due("its tail", x.copy(2, 4, 3, 0, 2), 2);
        // 9 11 9 11
        CHECK.due("9 11 9 11", x.rounds(3, 0), -4611686018427387904L);
        CHECK.due("all onto itself", x.copy(0, 0, 0, 0, 5), 5);
        tells(x, 0, 10, 20, 30, 40, 50);
    }

    private static void copyRefuses() {
        EveryNinth x = new EveryNinth();
        Check.lay(x, 0, 1, 10, 20, 30);
        Check.lay(x, 1, 1, 40, 50);
        Check.lay(x, 2, 2, 60, 70);
        int[][] rows = {
            {4, 0, 0, 0, 1, -2}, {0, 0, 4, 0, 1, -2}, {-1, 0, 0, 0, 1, -2}, {0, 0, -1, 0, 1, -2}, {3, 0, 4, 0, 1, -2},
            {4, 0, 3, 0, 1, -2}, {3, 0, 0, 0, 1, -11}, {0, 0, 3, 0, 1, -11}, {3, 0, 3, 0, -1, -11},
            {2, 0, 3, 9, 9, -11}, {0, 0, 2, 0, 1, -13}, {2, 0, 0, 0, 1, -13}, {0, -1, 2, 0, 1, -13},
            {0, 0, 2, 0, -1, -13}, {0, -1, 1, 0, 1, -12}, {0, 0, 1, -1, 1, -12}, {0, 0, 1, 0, -1, -12},
            {0, 0, 1, 0, 3, -12}, {0, 2, 1, 0, 2, -12}, {0, 0, 1, 1, 2, -12}, {0, 4, 1, 0, 0, -12},
            {0, 0, 1, 3, 0, -12}, {0, 0, 1, 0, Integer.MAX_VALUE, -12}, {0, 1, 1, 1, Integer.MAX_VALUE, -12},
            {0, Integer.MAX_VALUE, 1, 0, 1, -12}, {0, Integer.MAX_VALUE, 1, 0, Integer.MAX_VALUE, -12},
            {0, 0, 1, Integer.MAX_VALUE, 1, -12}, {0, Integer.MIN_VALUE, 1, 0, 0, -12},
            {0, 0, 1, 0, Integer.MIN_VALUE, -12}, {0, 3, 1, 2, 0, 0}, {0, 0, 1, 0, 0, 0}
        };
        for (int[] r : rows) {
            CHECK.due("copy(" + r[0] + ", " + r[1] + ", " + r[2] + ", " + r[3] + ", " + r[4] + ")",
                    x.copy(r[0], r[1], r[2], r[3], r[4]), r[5]);
        }
        tells(x, 1, 40, 50);
        Check.lay(x, 0, 0, 1, 2);
        CHECK.due("bytes to shorts", x.copy(0, 0, 1, 0, 1), -13);
    }

    private static void thingsCome() {
        EveryNinth x = new EveryNinth();
        Check.lay(x, 0, 1, 0, 9, 6059, 6, 0, 100, 5, 1, 203, 1, 10, 100, 4, 4, 404);
        CHECK.due("three of five", x.things(0, 1, 0, 5), 3);
        CHECK.due("count(0)", x.count(0), 3);
        CHECK.due("the first's kind", x.told(0, 0), 0);
        CHECK.due("the first's begin", x.told(0, 3), 59);
        CHECK.due("the second's kind", x.told(1, 0), 5);
        CHECK.due("the second's period", x.told(1, 2), 2);
        CHECK.due("the third's number", x.told(2, 1), 4);
        CHECK.due("from 1 on: 9 6059 6, ..", x.things(0, 1, 1, 4), 0);
        CHECK.due("from 6 on", x.things(0, 1, 6, 1), 1);
        CHECK.due("from 12 on", x.things(0, 1, 12, 1), 1);
        CHECK.due("one has room", x.things(0, 1, 6, 3), 1);
        CHECK.due("none has room", x.things(0, 1, 0, 5), 0);
        CHECK.due("count(0)", x.count(0), 6);
        EveryNinth y = new EveryNinth();
        Check.lay(y, 3, 0, 1, 1, 127);
        CHECK.due("of bytes", y.things(3, 0, 0, 1), 1);
        CHECK.due("begin 27", y.told(0, 3), 27);
        Check.lay(y, 3, 0, 1, 1, 128);
        CHECK.due("a byte of 128 is -128", y.things(3, 0, 0, 1), 0);
        Check.lay(y, 3, 2, 1, 1, 65536 + 100);
        CHECK.due("an int stays", y.things(3, 2, 0, 1), 0);
        Check.lay(y, 3, 1, 1, 1, 65536 + 101);
        CHECK.due("a short is cut", y.things(3, 1, 0, 1), 1);
    }

    private static void thingsRefuse() {
        EveryNinth x = new EveryNinth();
        Check.lay(x, 0, 1, 0, 0, 100, 0, 0, 200, 0, 0);
        int[][] rows = {
            {4, 1, 0, 1, -2}, {-1, 1, 0, 1, -2}, {0, 3, 0, 1, -2}, {0, -1, 0, 1, -2}, {0, 1, 0, 7, -2},
            {0, 1, 0, -1, -2}, {1, 3, 0, 1, -2}, {1, 1, 0, 7, -2}, {0, 0, 0, 7, -2}, {0, 0, 0, 1, -13},
            {0, 2, 0, 0, -13}, {0, 2, -1, 1, -13}, {1, 0, 0, 1, -11}, {1, 2, 0, 0, -11}, {1, 2, -5, 6, -11},
            {0, 1, -1, 1, -12}, {0, 1, 6, 1, -12}, {0, 1, 8, 1, -12}, {0, 1, Integer.MAX_VALUE, 1, -12},
            {0, 1, Integer.MIN_VALUE, 6, -12}, {0, 1, 0, 0, 0}, {0, 1, 5, 0, 0}
        };
        for (int[] r : rows) {
            CHECK.due("things(" + r[0] + ", " + r[1] + ", " + r[2] + ", " + r[3] + ")",
                    x.things(r[0], r[1], r[2], r[3]), r[4]);
        }
        CHECK.due("none came", x.count(0), 0);
        CHECK.due("outside at the third", x.things(0, 1, 0, 3), -12);
        CHECK.due("what stood ahead came", x.count(0), 2);
        CHECK.due("the second's period", x.told(1, 2), 2);
        CHECK.due("outside at the second", x.things(0, 1, 3, 2), -12);
        CHECK.due("what stood ahead came", x.count(0), 3);
        x.things(0, 1, 0, 2);
        x.things(0, 1, 0, 2);
        CHECK.due("six", x.count(0), 6);
        CHECK.due("outside though none has room", x.things(0, 1, 0, 6), -12);
    }

    private static void takenByKinds() {
        EveryNinth x = new EveryNinth();
        for (int kind = 0; kind <= 5; kind++) {
            x.thing(kind, kind + 3, 100);
        }
        int[] under = {1, 3, 5, 11, 21, 33};
        for (int thing = 0; thing <= 5; thing++) {
            for (int k = 0; k <= 5; k++) {
                boolean is = (under[thing] >> k & 1) == 1;
                CHECK.due("taken(" + thing + ", " + k + ")", x.taken(thing, k), is ? thing + 3 : -13);
            }
        }
        x.set(1, 3, 0);
        CHECK.due("its number now", x.taken(3, 1), 0);
    }

    private static void takenRefuses() {
        EveryNinth x = new EveryNinth();
        x.thing(0, 0, 100);
        CHECK.due("taken(0, -1)", x.taken(0, -1), -2);
        CHECK.due("taken(0, 6)", x.taken(0, 6), -2);
        CHECK.due("taken(9, 6): k ahead of the thing", x.taken(9, 6), -2);
        CHECK.due("taken(0, MIN)", x.taken(0, Integer.MIN_VALUE), -2);
        CHECK.due("taken(1, 0)", x.taken(1, 0), -11);
        CHECK.due("taken(-1, 0)", x.taken(-1, 0), -11);
        CHECK.due("taken(MAX, 5)", x.taken(Integer.MAX_VALUE, 5), -11);
        CHECK.due("taken(0, 1)", x.taken(0, 1), -13);
    }
}
