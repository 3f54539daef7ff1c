/** Counts what a test finds and prints each answer that is not the one due. */
final class Check {
    private final String name;
    private int right;
    private int wrong;

    Check(String name) {
        this.name = name;
    }

    void due(String call, long got, long want) {
        if (got == want) {
            right++;
            return;
        }
        wrong++;
        if (wrong <= 20) {
            System.out.println(name + ": " + call + " answered " + got + ", due is " + want);
        }
    }

    void holds(String what, boolean so) {
        due(what, so ? 1 : 0, 1);
    }

    boolean isClean() {
        return wrong == 0;
    }

    void end() {
        System.out.println(name + ": " + right + " as due, " + wrong + " not as due");
        if (wrong != 0 || right == 0) {
            System.exit(1);
        }
    }

    /** An object with plain things of these periods and begins (as of thing()). */
    static EveryNinth with(int... whats) {
        EveryNinth x = new EveryNinth();
        for (int what : whats) {
            x.thing(0, 0, what);
        }
        return x;
    }

    /** Feeds a whole text, byte by byte. */
    static void feedAll(EveryNinth x, String text) {
        for (int i = 0; i < text.length(); i++) {
            x.feed(text.charAt(i));
        }
    }

    /** Feeds a whole text and reads it. */
    static int read(EveryNinth x, String text) {
        feedAll(x, text);
        return x.text();
    }

    /** Makes a sheet of a sort that holds these numbers. */
    static void lay(EveryNinth x, int sheet, int sort, int... items) {
        x.sheet(sheet, sort, items.length);
        for (int i = 0; i < items.length; i++) {
            x.cell(sheet, i, items[i]);
        }
    }
}
