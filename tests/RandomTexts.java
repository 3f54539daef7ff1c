/** Texts by the grammar, and texts that were broken in one or two places. */
final class RandomTexts {
    private static final String[] NAMES = {"day", "thing", "many", "period", "rest", "number"};
    private static final String[] BITS = {
        "costs", "crowds", "minds", "or", "and", "not", "day", "thing", "many", "period", "rest", "number",
        "(", ")", ";", "+", "-", "*", "<", "=", "0", "7", "9999", "00001", "12345", "x", "costsday", " ", "\n",
        "\t", "A", ",", "(((((", "-----", "not not not", "\u00e9", "{", "`", "/", ":"
    };

    private final Dice dice;

    RandomTexts(Dice dice) {
        this.dice = dice;
    }

    String sound() {
        int depth = dice.below(4);
        return "costs" + blank() + either(depth) + ";" + maybeBlank() + "crowds" + blank() + either(depth) + ";"
                + maybeBlank() + "minds" + blank() + either(depth) + maybeBlank() + ";" + maybeBlank();
    }

    String perhapsBroken() {
        StringBuilder text = new StringBuilder(sound());
        int changes = dice.below(3);
        for (int i = 0; i < changes && text.length() > 0; i++) {
            int at = dice.below(text.length());
            if (dice.oneIn(3)) {
                text.delete(at, Math.min(text.length(), at + dice.between(1, 4)));
            } else if (dice.oneIn(4)) {
                text.setLength(at);
            } else {
                text.insert(at, maybeBlank() + dice.oneOf(BITS) + maybeBlank());
            }
        }
        return text.toString();
    }

    private String blank() {
        return dice.oneOf(" ", "\n", "  ", " \n");
    }

    private String maybeBlank() {
        return dice.oneIn(3) ? blank() : "";
    }

    private String either(int depth) {
        return dice.oneIn(4) ? both(depth) + " or " + both(depth) : both(depth);
    }

    private String both(int depth) {
        return dice.oneIn(4) ? negation(depth) + " and " + negation(depth) : negation(depth);
    }

    private String negation(int depth) {
        if (dice.oneIn(6)) {
            return "not " + negation(depth);
        }
        String sum = sum(depth);
        return dice.oneIn(4) ? sum + maybeBlank() + dice.oneOf("<", "=") + maybeBlank() + sum(depth) : sum;
    }

    private String sum(int depth) {
        StringBuilder sum = new StringBuilder(term(depth));
        while (dice.oneIn(3)) {
            sum.append(maybeBlank()).append(dice.oneOf("+", "-")).append(maybeBlank()).append(term(depth));
        }
        return sum.toString();
    }

    private String term(int depth) {
        StringBuilder term = new StringBuilder(one(depth));
        while (dice.oneIn(4)) {
            term.append(maybeBlank()).append("*").append(maybeBlank()).append(one(depth));
        }
        return term.toString();
    }

    private String one(int depth) {
        if (dice.oneIn(6)) {
            return "-" + maybeBlank() + one(depth);
        }
        if (depth > 0 && dice.oneIn(3)) {
            return "(" + maybeBlank() + either(depth - 1) + maybeBlank() + ")";
        }
        return dice.oneIn(3) ? String.valueOf(dice.oneOf(0, 1, 2, 5, 30, 99, 100, 9999)) : dice.oneOf(NAMES);
    }
}
