import java.math.BigInteger;
import java.util.ArrayList;
import java.util.Arrays;
import java.util.List;
import java.util.TreeSet;

/**
 * The document once more, in the slowest and most literal words, to hold the program against.
 * It shares no code and, where there is a choice, no way of reckoning with the program.
 */
final class Model {
    static final int NONE = -1, BAD = -2, STATE = -3, FULL = -4;
    static final long NO = -4611686018427387904L;

    private List<int[]> things = new ArrayList<>();
    private int holidays = 0;
    private final List<ModelText> texts = new ArrayList<>();
    private int rule = 0;
    private final List<Integer> tape = new ArrayList<>();
    private List<int[]> keptThings = null;
    private int keptHolidays;
    private int keptRule;
    private final Object[] sheets = new Object[4];

    Model() {
        texts.add(ModelText.of("costs 1 ; crowds many * many ; minds rest ;"));
    }

    // ---- things

    private boolean isThing(int t) {
        return t >= 0 && t < things.size();
    }

    int set(int what, int of, int v) {
        if (what == 0) {
            if (v < 0 || v > 127) {
                return BAD;
            }
            int was = holidays;
            holidays = v;
            return was;
        }
        if (what < 0 || what > 3 || !isThing(of)) {
            return BAD;
        }
        int least = what == 2 ? 1 : 0;
        int most = what == 1 ? 9 : what == 2 ? 60 : 59;
        if (v < least || v > most) {
            return BAD;
        }
        int was = things.get(of)[what];
        things.get(of)[what] = v;
        return was;
    }

    int thing(int kind, int number, int what) {
        if (kind < 0 || kind > 5 || number < 0 || number > 9 || what < 0) {
            return BAD;
        }
        if (what / 100 < 1 || what / 100 > 60 || what % 100 > 59) {
            return BAD;
        }
        if (things.size() == 6) {
            return FULL;
        }
        things.add(new int[] {kind, number, what / 100, what % 100});
        return things.size() - 1;
    }

    int told(int t, int what) {
        return isThing(t) && what >= 0 && what <= 3 ? things.get(t)[what] : BAD;
    }

    // ---- texts

    int feed(int letter) {
        if (letter < 0 || letter > 255) {
            return BAD;
        }
        if (tape.size() == 160) {
            return FULL;
        }
        tape.add(letter);
        return tape.size();
    }

    int text() {
        if (texts.size() == 6) {
            return FULL;
        }
        StringBuilder b = new StringBuilder();
        for (int letter : tape) {
            b.append((char) letter);
        }
        tape.clear();
        int fault = ModelText.faultOf(b.toString());
        if (fault >= 0) {
            return -100 - fault;
        }
        texts.add(ModelText.of(b.toString()));
        return texts.size() - 1;
    }

    int force(int text) {
        if (text < 0 || text >= texts.size()) {
            return BAD;
        }
        int was = rule;
        rule = text;
        return was;
    }

    // ---- coming

    /** The round, by days from 10 ahead of day 0 on: what is ahead of day 0 is in none. */
    private static boolean[] round(int[] thing) {
        boolean[] round = new boolean[500];
        for (int d = thing[3]; d + 10 < 500; d += thing[2]) {
            round[d + 10] = true;
        }
        return round;
    }

    private static boolean isHoliday(int d, int holidays) {
        return (holidays & (1 << (d % 7))) != 0;
    }

    /** On which days of the year the thing comes. */
    private static boolean[] comings(int[] thing, int holidays) {
        boolean[] round = round(thing);
        boolean[] comes = new boolean[400];
        for (int d = 0; d < 400; d++) {
            boolean lasting = false;
            for (int back = 0; back <= thing[1]; back++) {
                lasting |= round[d - back + 10];
            }
            boolean in = round[d + 10];
            boolean putOff = in;
            for (int back = 1; back <= 6 && d - back >= 0 && isHoliday(d - back, holidays); back++) {
                putOff |= round[d - back + 10];
            }
            boolean free = !isHoliday(d, holidays);
            boolean[] byKind = {
                in, lasting, putOff && free, lasting || round[d + 11], in && free, in || d % 30 == thing[1]
            };
            comes[d] = byKind[thing[0]];
        }
        return comes;
    }

    private static boolean[][] table(List<int[]> things, int holidays) {
        boolean[][] table = new boolean[things.size()][];
        for (int t = 0; t < table.length; t++) {
            table[t] = comings(things.get(t), holidays);
        }
        return table;
    }

    private static int comers(boolean[][] table, int d) {
        int many = 0;
        for (boolean[] row : table) {
            many += row[d] ? 1 : 0;
        }
        return many;
    }

    private static int spends(int[] thing, int v) {
        int lasting = Math.max(1, v / (thing[1] + 1));
        int[] byKind = {v, lasting, v + 1, 2 * lasting, v + 1, v};
        return byKind[thing[0]];
    }

    private static int clamp(int v) {
        return v < 0 ? 0 : v > 99 ? 99 : v;
    }

    private int[] costs(List<int[]> all, boolean[][] table) {
        int[] costs = new int[400];
        ModelText text = texts.get(rule);
        int rest = 0;
        for (int d = 0; d < 400; d++) {
            int many = comers(table, d);
            for (int t = 0; t < all.size(); t++) {
                if (table[t][d]) {
                    int[] thing = all.get(t);
                    int v = text.tells(0, d, t, many, thing[2], rest, thing[1]);
                    costs[d] += spends(thing, clamp(v));
                }
            }
            if (many >= 2) {
                costs[d] += clamp(text.tells(1, d, 0, many, 0, rest, 0));
            }
            rest = many == 0 ? rest + 1 : 0;
        }
        return costs;
    }

    private int allCosts(List<int[]> all, int withHolidays) {
        return Arrays.stream(costs(all, table(all, withHolidays))).sum();
    }

    int day(int day, int what) {
        if (day < 0 || day > 399 || what < 0 || what > 2) {
            return BAD;
        }
        if (what == 2) {
            return isHoliday(day, holidays) ? 1 : 0;
        }
        boolean[][] table = table(things, holidays);
        if (what == 1) {
            return costs(things, table)[day];
        }
        int bits = 0;
        for (int t = 0; t < table.length; t++) {
            bits += table[t][day] ? 1 << t : 0;
        }
        return bits;
    }

    int when(int t, int day) {
        if (!isThing(t) || day < 0 || day > 399) {
            return BAD;
        }
        boolean[] comes = comings(things.get(t), holidays);
        for (int d = day; d < 400; d++) {
            if (comes[d]) {
                return d;
            }
        }
        return NONE;
    }

    int often(int t, int n) {
        if (!isThing(t) || n < 0 || n > 400) {
            return BAD;
        }
        boolean[] comes = comings(things.get(t), holidays);
        int times = 0;
        for (int d = 0; d < n; d++) {
            times += comes[d] ? 1 : 0;
        }
        return times;
    }

    int year(int what) {
        if (what < 0 || what > 8) {
            return BAD;
        }
        boolean[][] table = table(things, holidays);
        int[] costs = costs(things, table);
        int any = 0;
        int two = 0;
        int rest = 0;
        int restAt = NONE;
        for (int d = 0; d < 400; d++) {
            any += comers(table, d) > 0 ? 1 : 0;
            two += comers(table, d) > 1 ? 1 : 0;
            int length = 0;
            while (d + length < 400 && comers(table, d + length) == 0) {
                length++;
            }
            if (length > rest) {
                rest = length;
                restAt = d;
            }
        }
        int week = 0;
        int inWeek = -1;
        for (int w = 0; w <= 56; w++) {
            int many = 0;
            for (int d = 7 * w; d <= 7 * w + 6; d++) {
                many += comers(table, d);
            }
            if (many > inWeek) {
                inWeek = many;
                week = w;
            }
        }
        int dearest = 0;
        for (int d = 0; d < 400; d++) {
            if (costs[d] > costs[dearest]) {
                dearest = d;
            }
        }
        int[] all = {Arrays.stream(costs).sum(), any, two, rest, restAt, week, inWeek, dearest, costs[dearest]};
        return all[what];
    }

    // ---- meeting

    private List<int[]> chosen(int set) {
        List<int[]> chosen = new ArrayList<>();
        for (int bit = 0; bit < 32; bit++) {
            if ((set >>> bit & 1) == 1) {
                if (bit >= things.size()) {
                    return null;
                }
                chosen.add(things.get(bit));
            }
        }
        return chosen;
    }

    private static long lcm(long a, long b) {
        return a / BigInteger.valueOf(a).gcd(BigInteger.valueOf(b)).longValue() * b;
    }

    /** First day and step, by stepping through the common days found so far; null if never. */
    private static long[] common(List<int[]> some) {
        long first = 0;
        long step = 1;
        for (int[] thing : some) {
            long most = first + 2 * lcm(step, thing[2]) + 60;
            long day = first;
            while (day <= most && (day < thing[3] || (day - thing[3]) % thing[2] != 0)) {
                day += step;
            }
            if (day > most) {
                return null;
            }
            first = day;
            step = lcm(step, thing[2]);
        }
        return new long[] {first, step};
    }

    long meet(int set) {
        List<int[]> some = chosen(set);
        long[] common = some == null ? null : common(some);
        return common == null ? NO : common[0];
    }

    long every(int set) {
        List<int[]> some = chosen(set);
        long[] common = some == null ? null : common(some);
        return common == null ? NO : common[1];
    }

    int why(int set) {
        if (chosen(set) == null) {
            return BAD;
        }
        for (int a = 0; a < things.size(); a++) {
            for (int b = a + 1; b < things.size(); b++) {
                boolean both = (set >>> a & 1) == 1 && (set >>> b & 1) == 1;
                if (both && common(List.of(things.get(a), things.get(b))) == null) {
                    return 10 * a + b;
                }
            }
        }
        return NONE;
    }

    long full(int part) {
        if (part != 0 && part != 1) {
            return NO;
        }
        long below = 1;
        for (int[] thing : things) {
            below = lcm(below, thing[2]);
        }
        long above = 0;
        for (int[] thing : things) {
            above += below / thing[2];
        }
        long divisor = BigInteger.valueOf(above).gcd(BigInteger.valueOf(below)).longValue();
        return part == 0 ? above / divisor : below / divisor;
    }

    // ---- shifting

    private static int[] shifted(int[] thing, int days) {
        int[] other = thing.clone();
        other[3] = (other[3] + days) % 60;
        return other;
    }

    int shift(int t) {
        if (!isThing(t)) {
            return BAD;
        }
        boolean[][] table = table(things, holidays);
        for (int s = 0; s <= 59; s++) {
            boolean[] comes = comings(shifted(things.get(t), s), holidays);
            boolean free = true;
            for (int d = 0; d < 400; d++) {
                for (int other = 0; other < things.size(); other++) {
                    free &= other == t || !comes[d] || !table[other][d];
                }
            }
            if (free) {
                return s;
            }
        }
        return NONE;
    }

    int join(int t, int other) {
        if (!isThing(t) || !isThing(other) || t == other) {
            return BAD;
        }
        for (int s = 0; s <= 59; s++) {
            if (common(List.of(shifted(things.get(t), s), things.get(other))) != null) {
                return s;
            }
        }
        return NONE;
    }

    int goodShift(int t, int what) {
        if (!isThing(t) || (what != 0 && what != 1)) {
            return BAD;
        }
        int best = -1;
        int least = Integer.MAX_VALUE;
        for (int s = 0; s <= 59; s++) {
            List<int[]> would = new ArrayList<>(things);
            would.set(t, shifted(things.get(t), s));
            int minds = clamp(texts.get(rule).tells(2, 0, t, 0, things.get(t)[2], s, things.get(t)[1]));
            int costs = allCosts(would, holidays) + minds;
            if (costs < least) {
                least = costs;
                best = s;
            }
        }
        return what == 0 ? best : least;
    }

    // ---- diaries

    private boolean isSheet(int sheet) {
        return sheet >= 0 && sheet <= 3;
    }

    private static int length(Object row) {
        return java.lang.reflect.Array.getLength(row);
    }

    private static int item(Object row, int i) {
        return java.lang.reflect.Array.getInt(row, i);
    }

    /** The told days, or null where the sheet tells none as it must. */
    private List<Integer> days(int sheet) {
        Object row = sheets[sheet];
        if (row == null || length(row) < 1 || length(row) > 20) {
            return null;
        }
        List<Integer> days = new ArrayList<>();
        for (int i = 0; i < length(row); i++) {
            int day = item(row, i);
            if (day < 0 || day > 399 || (i > 0 && day <= days.get(i - 1))) {
                return null;
            }
            days.add(day);
        }
        return days;
    }

    private static boolean wrote(int[] thing, int holidays, List<Integer> days) {
        boolean[] comes = comings(thing, holidays);
        List<Integer> would = new ArrayList<>();
        for (int d = 0; d <= days.get(days.size() - 1); d++) {
            if (comes[d]) {
                would.add(d);
            }
        }
        return would.equals(days);
    }

    int diary(int sheet, int what, int t) {
        if (!isSheet(sheet) || (what != 0 && what != 1) || (what == 1 && !isThing(t))) {
            return BAD;
        }
        if (sheets[sheet] == null) {
            return -11;
        }
        List<Integer> days = days(sheet);
        if (days == null) {
            return BAD;
        }
        int bits = 0;
        for (int i = 0; i < (what == 0 ? things.size() : 6); i++) {
            int[] thing = things.get(what == 0 ? i : t).clone();
            thing[0] = what == 0 ? thing[0] : i;
            bits += wrote(thing, holidays, days) ? 1 << i : 0;
        }
        return bits;
    }

    long rounds(int sheet, int what) {
        if (!isSheet(sheet) || (what != 0 && what != 1) || days(sheet) == null) {
            return NO;
        }
        List<Integer> days = days(sheet);
        int last = days.get(days.size() - 1);
        long periods = 0;
        long pairs = 0;
        for (int p = 1; p <= 60; p++) {
            boolean fits = true;
            for (int i = 1; i < days.size(); i++) {
                fits &= days.get(i) - days.get(i - 1) == p;
            }
            periods |= fits ? 1L << (p - 1) : 0;
            TreeSet<Integer> one = new TreeSet<>();
            for (int d = days.get(0); d <= last; d += p) {
                one.add(d);
            }
            TreeSet<Integer> left = new TreeSet<>(days);
            left.removeAll(one);
            for (int q = 1; q <= 60; q++) {
                TreeSet<Integer> both = new TreeSet<>(one);
                for (int d = left.isEmpty() ? last + 1 : left.first(); d <= last; d += q) {
                    both.add(d);
                }
                pairs += both.equals(new TreeSet<>(days)) ? 1 : 0;
            }
        }
        return what == 0 ? periods : pairs;
    }

    int film(int sheet, int t, int n) {
        if (!isSheet(sheet) || !isThing(t) || n < 1 || n > 20) {
            return BAD;
        }
        boolean[] comes = comings(things.get(t), holidays);
        List<Integer> days = new ArrayList<>();
        for (int d = 0; d < 400; d++) {
            if (comes[d] && days.size() < n) {
                days.add(d);
            }
        }
        short[] row = new short[days.size()];
        for (int i = 0; i < row.length; i++) {
            row[i] = (short) (int) days.get(i);
        }
        sheets[sheet] = row;
        return row.length;
    }

    private static int drawnHolidays(int seed) {
        int z = (int) (seed * 1103515245L + 12345L);
        return (int) ((z & 0xFFFFFFFFL) / 512 % 128);
    }

    int drawn(int seed) {
        return allCosts(things, drawnHolidays(seed));
    }

    long chance(int seed, int n, int part) {
        if (n < 1 || n > 20 || (part != 0 && part != 1)) {
            return NO;
        }
        int calm = 0;
        for (int i = 0; i < n; i++) {
            boolean[][] table = table(things, drawnHolidays(seed + i));
            boolean crowded = false;
            for (int d = 0; d < 400; d++) {
                crowded |= comers(table, d) >= 2;
            }
            calm += crowded ? 0 : 1;
        }
        int divisor = BigInteger.valueOf(calm).gcd(BigInteger.valueOf(n)).intValue();
        return part == 0 ? calm / divisor : n / divisor;
    }

    private static List<int[]> copied(List<int[]> some) {
        List<int[]> copied = new ArrayList<>();
        for (int[] thing : some) {
            copied.add(thing.clone());
        }
        return copied;
    }

    int image() {
        keptThings = copied(things);
        keptHolidays = holidays;
        keptRule = rule;
        return things.size();
    }

    int back() {
        if (keptThings == null) {
            return STATE;
        }
        things = copied(keptThings);
        holidays = keptHolidays;
        rule = keptRule;
        return things.size();
    }

    int count(int what) {
        if (what < 0 || what > 4) {
            return BAD;
        }
        return new int[] {things.size(), holidays, texts.size(), tape.size(), rule}[what];
    }

    // ---- the host

    int sheet(int sheet, int sort, int n) {
        if (!isSheet(sheet) || sort < -1 || sort > 2) {
            return BAD;
        }
        if (sort == -1) {
            sheets[sheet] = null;
            return 1;
        }
        if (n > 40) {
            return BAD;
        }
        if (n < 0) {
            return -14;
        }
        sheets[sheet] = sort == 0 ? new byte[n] : sort == 1 ? new short[n] : new int[n];
        return 1;
    }

    int cell(int sheet, int i, int v) {
        if (!isSheet(sheet)) {
            return BAD;
        }
        Object row = sheets[sheet];
        if (row == null) {
            return -11;
        }
        if (i < 0 || i >= length(row)) {
            return -12;
        }
        if (row instanceof byte[] bytes) {
            bytes[i] = (byte) v;
        } else if (row instanceof short[] shorts) {
            shorts[i] = (short) v;
        } else {
            ((int[]) row)[i] = v;
        }
        return 1;
    }

    int copy(int sheet, int i, int other, int j, int n) {
        if (!isSheet(sheet) || !isSheet(other)) {
            return BAD;
        }
        if (sheets[sheet] == null || sheets[other] == null) {
            return -11;
        }
        if (sheets[sheet].getClass() != sheets[other].getClass()) {
            return -13;
        }
        try {
            System.arraycopy(sheets[sheet], i, sheets[other], j, n);
        } catch (IndexOutOfBoundsException e) {
            return -12;
        }
        return n;
    }

    int things(int sheet, int sort, int from, int n) {
        if (!isSheet(sheet) || sort < 0 || sort > 2 || n < 0 || n > 6) {
            return BAD;
        }
        Object row = sheets[sheet];
        Class<?>[] sorts = {byte[].class, short[].class, int[].class};
        if (row != null && row.getClass() != sorts[sort]) {
            return -13;
        }
        if (row == null) {
            return -11;
        }
        int came = 0;
        for (int i = 0; i < n; i++) {
            long at = from + 3L * i;
            if (at < 0 || at + 2 >= length(row)) {
                return -12;
            }
            if (thing(item(row, (int) at), item(row, (int) at + 1), item(row, (int) at + 2)) >= 0) {
                came++;
            }
        }
        return came;
    }

    int taken(int t, int k) {
        if (k < 0 || k > 5) {
            return BAD;
        }
        if (!isThing(t)) {
            return -11;
        }
        int[][] above = {{0}, {1, 0}, {2, 0}, {3, 1, 0}, {4, 2, 0}, {5, 0}};
        for (int kind : above[things.get(t)[0]]) {
            if (kind == k) {
                return things.get(t)[1];
            }
        }
        return -13;
    }
}
