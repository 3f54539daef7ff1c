/** Promises 1 to 4: a new object, set, thing, told. */
public final class ThingsTest {
    private static final Check CHECK = new Check("ThingsTest");

    public static void main(String[] args) {
        aNewObjectIsEmpty();
        setAnswersWhatItWas();
        setRefuses();
        thingsAreNumberedFromNothing();
        thingRefuses();
        toldTells();
        refusalsChangeNothing();
        CHECK.end();
    }

    private static void aNewObjectIsEmpty() {
        EveryNinth x = new EveryNinth();
        CHECK.due("count(0)", x.count(0), 0);
        CHECK.due("count(1)", x.count(1), 0);
        CHECK.due("count(2)", x.count(2), 1);
        CHECK.due("count(3)", x.count(3), 0);
        CHECK.due("count(4)", x.count(4), 0);
        CHECK.due("year(1)", x.year(1), 0);
        CHECK.due("back()", x.back(), -3);
        CHECK.due("told(0, 0)", x.told(0, 0), -2);
        CHECK.due("taken(0, 0)", x.taken(0, 0), -11);
        CHECK.due("when(0, 0)", x.when(0, 0), -2);
        for (int sheet = 0; sheet < 4; sheet++) {
            CHECK.due("cell(.., 0, 0) of a missing sheet", x.cell(sheet, 0, 0), -11);
        }
        for (int day = 0; day < 400; day++) {
            CHECK.due("day(" + day + ", 0)", x.day(day, 0), 0);
        }
        EveryNinth other = new EveryNinth();
        other.thing(0, 0, 100);
        CHECK.due("count(0): objects share nothing", x.count(0), 0);
    }

    private static void setAnswersWhatItWas() {
        EveryNinth x = new EveryNinth();
        CHECK.due("set(0, of does not matter)", x.set(0, Integer.MIN_VALUE, 127), 0);
        CHECK.due("set(0)", x.set(0, 77, 0), 127);
        CHECK.due("set(0)", x.set(0, 0, 5), 0);
        CHECK.due("count(1)", x.count(1), 5);
        x.thing(3, 4, 1725);
        x.thing(0, 1, 102);
        CHECK.due("set(1, 0, 9)", x.set(1, 0, 9), 4);
        CHECK.due("set(1, 0, 0)", x.set(1, 0, 0), 9);
        CHECK.due("set(2, 0, 60)", x.set(2, 0, 60), 17);
        CHECK.due("set(2, 0, 1)", x.set(2, 0, 1), 60);
        CHECK.due("set(3, 0, 59)", x.set(3, 0, 59), 25);
        CHECK.due("set(3, 0, 0)", x.set(3, 0, 0), 59);
        CHECK.due("told(0, 0)", x.told(0, 0), 3);
        CHECK.due("told(0, 1)", x.told(0, 1), 0);
        CHECK.due("told(0, 2)", x.told(0, 2), 1);
        CHECK.due("told(0, 3)", x.told(0, 3), 0);
        CHECK.due("told(1, 1) of the other", x.told(1, 1), 1);
        CHECK.due("told(1, 2) of the other", x.told(1, 2), 1);
        CHECK.due("told(1, 3) of the other", x.told(1, 3), 2);
    }

    private static void setRefuses() {
        EveryNinth x = new EveryNinth();
        x.thing(0, 3, 505);
        int[][] bad = {
            {0, 0, -1}, {0, 0, 128}, {0, 0, Integer.MAX_VALUE}, {1, 0, -1}, {1, 0, 10}, {1, 1, 5}, {1, -1, 5},
            {2, 0, 0}, {2, 0, 61}, {2, 1, 5}, {2, -1, 5}, {3, 0, -1}, {3, 0, 60}, {3, 1, 5}, {3, 6, 5}, {4, 0, 1},
            {-1, 0, 1}, {Integer.MAX_VALUE, 0, 1}, {Integer.MIN_VALUE, 0, 1}, {1, Integer.MAX_VALUE, 1},
            {1, Integer.MIN_VALUE, 1}
        };
        for (int[] b : bad) {
            CHECK.due("set(" + b[0] + ", " + b[1] + ", " + b[2] + ")", x.set(b[0], b[1], b[2]), -2);
        }
    }

    private static void thingsAreNumberedFromNothing() {
        EveryNinth x = new EveryNinth();
        for (int i = 0; i < 6; i++) {
            CHECK.due("thing() no. " + i, x.thing(i, i, 100 * (i + 1) + i), i);
        }
        CHECK.due("a seventh", x.thing(0, 0, 100), -4);
        CHECK.due("a bad seventh", x.thing(0, 0, 99), -2);
        CHECK.due("count(0)", x.count(0), 6);
        for (int i = 0; i < 6; i++) {
            CHECK.due("its kind", x.told(i, 0), i);
            CHECK.due("its number", x.told(i, 1), i);
            CHECK.due("its period", x.told(i, 2), i + 1);
            CHECK.due("its begin", x.told(i, 3), i);
        }
    }

    private static void thingRefuses() {
        EveryNinth x = new EveryNinth();
        int[][] bad = {
            {-1, 0, 100}, {6, 0, 100}, {0, -1, 100}, {0, 10, 100}, {0, 0, 99}, {0, 0, 0}, {0, 0, -1}, {0, 0, -100},
            {0, 0, 160}, {0, 0, 199}, {0, 0, 6060}, {0, 0, 6100}, {0, 0, Integer.MAX_VALUE},
            {0, 0, Integer.MIN_VALUE}, {Integer.MIN_VALUE, 0, 100}, {0, Integer.MAX_VALUE, 100}
        };
        for (int[] b : bad) {
            CHECK.due("thing(" + b[0] + ", " + b[1] + ", " + b[2] + ")", x.thing(b[0], b[1], b[2]), -2);
        }
        CHECK.due("count(0)", x.count(0), 0);
        CHECK.due("thing(5, 9, 6059)", x.thing(5, 9, 6059), 0);
        CHECK.due("thing(0, 0, 159)", x.thing(0, 0, 159), 1);
        CHECK.due("thing(0, 0, 200)", x.thing(0, 0, 200), 2);
    }

    private static void toldTells() {
        EveryNinth x = new EveryNinth();
        x.thing(5, 9, 6059);
        CHECK.due("told(0, 0)", x.told(0, 0), 5);
        CHECK.due("told(0, 1)", x.told(0, 1), 9);
        CHECK.due("told(0, 2)", x.told(0, 2), 60);
        CHECK.due("told(0, 3)", x.told(0, 3), 59);
        int[][] bad = {{0, -1}, {0, 4}, {1, 0}, {-1, 0}, {6, 0}, {Integer.MIN_VALUE, 0}, {0, Integer.MAX_VALUE}};
        for (int[] b : bad) {
            CHECK.due("told(" + b[0] + ", " + b[1] + ")", x.told(b[0], b[1]), -2);
        }
    }

    private static void refusalsChangeNothing() {
        EveryNinth x = new EveryNinth();
        x.thing(1, 2, 304);
        x.set(0, 0, 9);
        x.set(0, 0, 128);
        x.set(1, 0, 10);
        x.set(2, 0, 0);
        x.set(3, 0, 60);
        CHECK.due("count(1)", x.count(1), 9);
        CHECK.due("told(0, 1)", x.told(0, 1), 2);
        CHECK.due("told(0, 2)", x.told(0, 2), 3);
        CHECK.due("told(0, 3)", x.told(0, 3), 4);
    }
}
