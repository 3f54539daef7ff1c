import java.util.ArrayDeque;
import java.util.ArrayList;
import java.util.Deque;
import java.util.List;
import java.util.Set;

/**
 * A text of the model. Where its fault is, a machine of two states tells (a thing is due, or a sign
 * behind one); what it tells, climbing by how strong the signs bind.
 */
final class ModelText {
    private static final Set<String> NAMES = Set.of("day", "thing", "many", "period", "rest", "number");
    private static final Set<String> KEYS = Set.of("costs", "crowds", "minds", "or", "and", "not");

    private interface Node {
        int tells(int[] names);
    }

    private final Node[] parts = new Node[3];
    private final List<String> tokens;
    private int at = 0;

    private ModelText(List<String> tokens) {
        this.tokens = tokens;
    }

    static ModelText of(String text) {
        List<String> tokens = new ArrayList<>();
        tokenize(text, tokens, new ArrayList<>());
        ModelText read = new ModelText(tokens);
        for (int part = 0; part < 3; part++) {
            read.at++;
            read.parts[part] = read.climb(0);
            read.at++;
        }
        return read;
    }

    /** Days, thing, many, period, rest, number, in the order of the document. */
    int tells(int part, int... names) {
        return parts[part].tells(names);
    }

    // ---- tokens: "" is a broken one, behind which nothing is read

    private static void tokenize(String text, List<String> tokens, List<Integer> places) {
        java.util.regex.Matcher m =
                java.util.regex.Pattern.compile("[a-z]+|[0-9]+|[();+\\-*<=]").matcher(text);
        int at = 0;
        while (at < text.length()) {
            char letter = text.charAt(at);
            if (letter == 32 || letter == 10) {
                at++;
                continue;
            }
            places.add(at);
            m.region(at, text.length());
            String token = m.lookingAt() ? m.group() : "";
            boolean word = !token.isEmpty() && Character.isLetter(token.charAt(0));
            boolean number = !token.isEmpty() && Character.isDigit(token.charAt(0));
            if ((word && !NAMES.contains(token) && !KEYS.contains(token)) || (number && token.length() > 4)) {
                token = "";
            }
            tokens.add(token);
            if (token.isEmpty()) {
                return;
            }
            at += token.length();
        }
        tokens.add("end");
        places.add(text.length());
    }

    // ---- faults

    /** What is open inside one pair of brackets (or a whole part). */
    private static final class Frame {
        int nots;
        int minuses;
        boolean compared;
    }

    static int faultOf(String text) {
        List<String> tokens = new ArrayList<>();
        List<Integer> places = new ArrayList<>();
        tokenize(text, tokens, places);
        int at = 0;
        for (String key : List.of("costs", "crowds", "minds")) {
            if (!tokens.get(at).equals(key)) {
                return places.get(at);
            }
            at = skipPart(tokens, at + 1);
            if (!tokens.get(at).equals(";")) {
                return places.get(at);
            }
            at++;
        }
        return tokens.get(at).equals("end") ? -1 : places.get(at);
    }

    /** The first token that cannot stand in a part, which is its ; if the part is sound. */
    private static int skipPart(List<String> tokens, int from) {
        Deque<Frame> frames = new ArrayDeque<>();
        frames.push(new Frame());
        int open = 0;
        boolean thingDue = true;
        boolean notMayStand = true;
        for (int at = from; ; at++) {
            String token = tokens.get(at);
            Frame frame = frames.peek();
            boolean isOne = NAMES.contains(token) || token.matches("[0-9]+");
            if (thingDue && token.equals("not") && notMayStand && open < 5) {
                frame.nots++;
                open++;
            } else if (thingDue && token.equals("-") && open < 5) {
                frame.minuses++;
                open++;
                notMayStand = false;
            } else if (thingDue && token.equals("(") && open < 5) {
                frames.push(new Frame());
                open++;
                notMayStand = true;
            } else if (thingDue && isOne) {
                open -= frame.minuses;
                frame.minuses = 0;
                thingDue = false;
            } else if (!thingDue && Set.of("*", "+", "-").contains(token)) {
                thingDue = true;
                notMayStand = false;
            } else if (!thingDue && Set.of("<", "=").contains(token) && !frame.compared) {
                frame.compared = true;
                thingDue = true;
                notMayStand = false;
            } else if (!thingDue && Set.of("and", "or").contains(token)) {
                open -= frame.nots;
                frame.nots = 0;
                frame.compared = false;
                thingDue = true;
                notMayStand = true;
            } else if (!thingDue && token.equals(")") && frames.size() > 1) {
                open -= frame.nots + 1;
                frames.pop();
                open -= frames.peek().minuses;
                frames.peek().minuses = 0;
            } else if (!thingDue && token.equals(";") && frames.size() == 1) {
                return at;
            } else {
                return token.equals(";") ? faultAt(tokens, at) : at;
            }
        }
    }

    // A ; that cannot stand is a fault although the caller waits for one: it is made a broken token.
    private static int faultAt(List<String> tokens, int at) {
        tokens.set(at, "");
        return at;
    }

    // ---- what it tells

    private static int strength(String token) {
        switch (token) {
            case "or":
                return 1;
            case "and":
                return 2;
            case "<":
            case "=":
                return 4;
            case "+":
            case "-":
                return 5;
            case "*":
                return 6;
            default:
                return -1;
        }
    }

    private Node climb(int least) {
        Node left = one();
        while (strength(tokens.get(at)) > least) {
            String sign = tokens.get(at++);
            Node a = left;
            Node b = climb(strength(sign));
            left = names -> reckon(sign, a.tells(names), b.tells(names));
        }
        return left;
    }

    private static int reckon(String sign, int a, int b) {
        switch (sign) {
            case "or":
                return (a != 0) | (b != 0) ? 1 : 0;
            case "and":
                return (a != 0) & (b != 0) ? 1 : 0;
            case "<":
                return (long) a - b < 0 ? 1 : 0;
            case "=":
                return (a ^ b) == 0 ? 1 : 0;
            case "+":
                return (int) ((long) a + b);
            case "-":
                return (int) ((long) a - b);
            default:
                return (int) ((long) a * b);
        }
    }

    private Node one() {
        String token = tokens.get(at++);
        int name = List.of("day", "thing", "many", "period", "rest", "number").indexOf(token);
        if (name >= 0) {
            return names -> names[name];
        }
        switch (token) {
            case "not":
                Node denied = climb(3);
                return names -> denied.tells(names) == 0 ? 1 : 0;
            case "-":
                Node turned = one();
                return names -> (int) -(long) turned.tells(names);
            case "(":
                Node inner = climb(0);
                at++;
                return inner;
            default:
                int value = Integer.parseInt(token);
                return names -> value;
        }
    }
}
