import java.lang.reflect.InvocationTargetException;
import java.lang.reflect.Method;
import java.util.Arrays;

/** All promises together: long mixed runs of calls against the model. */
public final class RandomRunsTest {
    private static final int RUNS = 300;
    private static final int MOST_CALLS = 512;

    private final Check check = new Check("RandomRunsTest");
    private final Dice dice = new Dice(9);
    private final RandomTexts texts = new RandomTexts(dice);
    private EveryNinth x;
    private Model model;
    private int run;
    private int calls;

    public static void main(String[] args) throws ReflectiveOperationException {
        new RandomRunsTest().all();
    }

    private void all() throws ReflectiveOperationException {
        for (run = 0; run < RUNS && check.isClean(); run++) {
            x = new EveryNinth();
            model = new Model();
            calls = 0;
            int things = dice.below(8);
            for (int i = 0; i < things; i++) {
                call("thing", dice.below(6), dice.below(10), period() * 100 + dice.below(60));
            }
            while (calls < MOST_CALLS && check.isClean()) {
                step();
            }
        }
        check.end();
    }

    private void call(String name, int... args) throws ReflectiveOperationException {
        if (calls == MOST_CALLS) {
            return;
        }
        calls++;
        long got = invoke(x, name, args);
        long want = invoke(model, name, args);
        check.due("run " + run + ", call " + calls + ": " + name + Arrays.toString(args), got, want);
    }

    private static long invoke(Object on, String name, int... args) throws ReflectiveOperationException {
        Class<?>[] types = new Class<?>[args.length];
        Arrays.fill(types, int.class);
        Method method = on.getClass().getDeclaredMethod(name, types);
        Object[] boxed = Arrays.stream(args).boxed().toArray();
        try {
            return ((Number) method.invoke(on, boxed)).longValue();
        } catch (InvocationTargetException e) {
            throw new AssertionError(name + Arrays.toString(args), e.getCause());
        }
    }

    private int period() {
        return dice.oneIn(3) ? dice.between(1, 60) : dice.oneOf(1, 2, 3, 5, 7, 9, 14, 20, 30, 60, 59, 47);
    }

    private int sometimes(int usual, int... odd) {
        return dice.oneIn(12) ? dice.oneOf(odd) : usual;
    }

    private int aThing() {
        return sometimes(dice.below(6), -1, 6, 7, Integer.MIN_VALUE, Integer.MAX_VALUE, 32);
    }

    private int aSheet() {
        return sometimes(dice.below(4), -1, 4, Integer.MIN_VALUE, Integer.MAX_VALUE);
    }

    private int aSort() {
        return sometimes(dice.below(3), -1, 3, -2, Integer.MAX_VALUE);
    }

    private int aWhat(int most) {
        return sometimes(dice.between(0, most), -1, most + 1, Integer.MIN_VALUE, Integer.MAX_VALUE);
    }

    private int aDay() {
        return sometimes(dice.below(400), -1, 400, 0, 399, Integer.MIN_VALUE, Integer.MAX_VALUE);
    }

    private int aSet() {
        return sometimes(dice.below(1 << model.count(0)), -1, 64, 63, Integer.MIN_VALUE, Integer.MAX_VALUE, 128);
    }

    private int aPlace() {
        return sometimes(dice.below(12), -1, 40, 39, Integer.MIN_VALUE, Integer.MAX_VALUE);
    }

    private void step() throws ReflectiveOperationException {
        switch (dice.below(24)) {
            case 0:
                call("thing", aWhat(5), aWhat(9), sometimes(period() * 100 + dice.below(60), -1, 99, 160, 6100, 6059,
                        100, -100, Integer.MIN_VALUE, Integer.MAX_VALUE));
                break;
            case 1:
                call("set", 0, dice.any(), sometimes(dice.below(128), -1, 128, 127, 126, 63));
                break;
            case 2:
                call("set", aWhat(3), aThing(), dice.oneOf(dice.below(10), dice.between(1, 60), dice.below(60), 60, 61,
                        10, 9, 0, -1));
                break;
            case 3:
                call("told", aThing(), aWhat(3));
                break;
            case 4:
                feedAndRead();
                break;
            case 5:
                call("force", sometimes(dice.below(6), -1, 6, Integer.MAX_VALUE));
                break;
            case 6:
                call("day", aDay(), aWhat(2));
                break;
            case 7:
                call("when", aThing(), aDay());
                break;
            case 8:
                call("often", aThing(), sometimes(dice.between(0, 400), -1, 401, 400, 0));
                break;
            case 9:
                call("year", aWhat(8));
                break;
            case 10:
                call("meet", aSet());
                call("every", aSet());
                break;
            case 11:
                call("why", aSet());
                break;
            case 12:
                call("full", aWhat(1));
                break;
            case 13:
                call(dice.oneOf("shift", "shift"), aThing());
                break;
            case 14:
                call("join", aThing(), aThing());
                break;
            case 15:
                if (dice.oneIn(4)) {
                    call("goodShift", aThing(), aWhat(1));
                }
                break;
            default:
                laterStep();
        }
    }

    private void laterStep() throws ReflectiveOperationException {
        switch (dice.below(12)) {
            case 0:
                layDays();
                break;
            case 1:
                call("diary", aSheet(), aWhat(1), aThing());
                call("rounds", aSheet(), aWhat(1));
                break;
            case 2:
                int sheet = aSheet();
                int thing = aThing();
                call("film", sheet, thing, sometimes(dice.between(1, 20), 0, 21, -1));
                call("diary", sheet, aWhat(1), thing);
                call("rounds", sheet, aWhat(1));
                break;
            case 3:
                call("drawn", dice.any());
                call("chance", dice.any(), sometimes(dice.between(1, 20), 0, 21, -1), aWhat(1));
                break;
            case 4:
                call("image");
                break;
            case 5:
                call("back");
                break;
            case 6:
                call("count", aWhat(4));
                break;
            case 7:
                call("sheet", aSheet(), aSort(), sometimes(dice.below(20), -1, 40, 41, Integer.MIN_VALUE));
                break;
            case 8:
                call("cell", aSheet(), aPlace(), dice.oneOf(dice.below(400), dice.any(), dice.below(6), -1, 128, 32768));
                break;
            case 9:
                call("copy", aSheet(), aPlace(), aSheet(), aPlace(), aPlace());
                break;
            case 10:
                layThings();
                break;
            default:
                call("taken", aThing(), aWhat(5));
        }
    }

    private void feedAndRead() throws ReflectiveOperationException {
        String text = dice.oneIn(3) ? texts.perhapsBroken() : texts.sound();
        if (calls + text.length() > MOST_CALLS - 60 || model.count(2) == 6 && dice.below(20) > 0) {
            call("text");
            return;
        }
        for (int i = 0; i < text.length(); i++) {
            call("feed", text.charAt(i));
        }
        if (dice.oneIn(8)) {
            call("feed", dice.oneOf(-1, 256, 255, 0));
        }
        call("text");
        call("force", model.count(2) - 1);
    }

    private void layDays() throws ReflectiveOperationException {
        int sheet = dice.below(4);
        int n = dice.oneOf(0, 1, 2, 3, 4, 5, 6, 20, 21);
        call("sheet", sheet, dice.below(3), n);
        int day = dice.below(30);
        int step = dice.between(1, 20);
        for (int i = 0; i < n; i++) {
            call("cell", sheet, i, day);
            day += dice.oneIn(12) ? dice.between(-1, 30) : dice.oneIn(3) ? 2 * step : step;
        }
        call("rounds", sheet, 0);
        call("rounds", sheet, 1);
        call("diary", sheet, 0, 0);
    }

    private void layThings() throws ReflectiveOperationException {
        int sheet = dice.below(4);
        int sort = dice.below(3);
        int n = dice.below(4);
        call("sheet", sheet, sort, 3 * n + dice.below(3));
        for (int i = 0; i < n; i++) {
            call("cell", sheet, 3 * i, sometimes(dice.below(6), 6, -1));
            call("cell", sheet, 3 * i + 1, sometimes(dice.below(10), 10, -1));
            call("cell", sheet, 3 * i + 2, sometimes(sort == 0 ? dice.between(100, 160) : period() * 100 + 5, 99, 160));
        }
        // The document does not tell what none of them from a place outside are.
        int least = Math.max(n, 1);
        call("things", sheet, dice.oneIn(8) ? aSort() : sort, dice.oneOf(0, 0, 0, 3, 1, -1),
                sometimes(least, n + 1, 6, 7, -1));
    }
}
