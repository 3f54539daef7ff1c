import java.lang.reflect.InvocationTargetException;
import java.lang.reflect.Method;
import java.util.HashMap;
import java.util.Map;

/**
 * A run of calls on a new object, each written as the document writes it ("set(0, 0, 127)"; MIN and
 * MAX are the least and the greatest int), under the sentence of the document that it holds.
 */
final class Run {
    /** What later calls answer is free, so no test may lean on them. */
    private static final int MOST_CALLS = 512;
    private static final Map<String, Method> CALLS = new HashMap<>();

    static {
        for (Method method : EveryNinth.class.getMethods()) {
            CALLS.put(method.getName() + method.getParameterCount(), method);
        }
    }

    private final Check check;
    private final String sentence;
    private final EveryNinth x = new EveryNinth();
    private int made;

    Run(Check check, String sentence) {
        this.check = check;
        this.sentence = sentence;
    }

    /** Another run under the same sentence. */
    Run anew() {
        return new Run(check, sentence);
    }

    Run due(String call, long want) {
        check.due("'" + sentence + "': call " + (made + 1) + ", " + call, answer(call), want);
        return this;
    }

    /** Several calls of which each is due to answer the same. */
    Run allDue(long want, String... calls) {
        for (String call : calls) {
            due(call, want);
        }
        return this;
    }

    /** Calls that only lead to where the sentence is looked at. */
    Run make(String... calls) {
        for (String call : calls) {
            answer(call);
        }
        return this;
    }

    Run holds(String what, boolean so) {
        check.holds("'" + sentence + "': " + what, so);
        return this;
    }

    Run feed(String text) {
        for (int i = 0; i < text.length(); i++) {
            answer("feed(" + (int) text.charAt(i) + ")");
        }
        return this;
    }

    Run text(String text, long want) {
        feed(text);
        check.due("'" + sentence + "': text() of \"" + text.replace("\n", "\\n") + "\"", answer("text()"), want);
        return this;
    }

    /** Reads a sound text and makes it the rule. */
    Run rule(String text) {
        feed(text);
        long number = answer("text()");
        holds("a sound text: " + text, number > 0);
        answer("force(" + number + ")");
        return this;
    }

    /** Makes a sheet of a sort that holds these numbers. */
    Run lay(int sheet, int sort, int... items) {
        answer("sheet(" + sheet + ", " + sort + ", " + items.length + ")");
        for (int i = 0; i < items.length; i++) {
            answer("cell(" + sheet + ", " + i + ", " + items[i] + ")");
        }
        return this;
    }

    /**
     * The sheet is of this sort and holds just these numbers, 0 .. 126 or (but for bytes) 0 .. 399;
     * looked at by way of another sheet, on which an item beside a known day makes a known gap.
     */
    Run items(int sheet, int by, int sort, int... items) {
        int n = items.length;
        due("copy(" + sheet + ", " + n + ", " + sheet + ", " + n + ", 0)", 0);
        due("copy(" + sheet + ", " + (n + 1) + ", " + sheet + ", 0, 0)", -12);
        make("sheet(" + by + ", " + sort + ", 2)");
        due("copy(" + sheet + ", 0, " + by + ", 0, 0)", 0);
        for (int i = 0; i < n; i++) {
            int own = items[i] == 0 ? 0 : 1;
            make("cell(" + by + ", " + (1 - own) + ", " + (own == 0 ? 1 : items[i] - 1) + ")");
            make("copy(" + sheet + ", " + i + ", " + by + ", " + own + ", 1)");
            due("rounds(" + by + ", 0)", 1);
        }
        return this;
    }

    long answer(String call) {
        made++;
        if (made > MOST_CALLS) {
            throw new IllegalStateException("more than 512 calls under '" + sentence + "'");
        }
        String inside = call.substring(call.indexOf('(') + 1, call.length() - 1);
        String[] words = inside.isEmpty() ? new String[0] : inside.split(", ");
        Object[] numbers = new Object[words.length];
        for (int i = 0; i < words.length; i++) {
            numbers[i] = number(words[i]);
        }
        Method method = CALLS.get(call.substring(0, call.indexOf('(')) + words.length);
        try {
            return ((Number) method.invoke(x, numbers)).longValue();
        } catch (InvocationTargetException | IllegalAccessException e) {
            throw new AssertionError(call + " under '" + sentence + "'", e);
        }
    }

    private static int number(String word) {
        switch (word) {
            case "MIN":
                return Integer.MIN_VALUE;
            case "MAX":
                return Integer.MAX_VALUE;
            default:
                return Integer.parseInt(word);
        }
    }
}
