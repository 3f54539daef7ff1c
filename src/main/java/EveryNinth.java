/**
 * Up to six things that come round, each every so many days: on which days of a year they come,
 * what that costs by a rule of texts, where they meet, and whose diary it was.
 */
public final class EveryNinth {
    public static final int NONE = -1, BAD = -2, STATE = -3, FULL = -4;
    public static final long NO = -4611686018427387904L;

    private static final int NOTHING_THERE = -11, OUTSIDE = -12, OTHER_SORT = -13, BELOW_NOTHING = -14;
    private static final int FAULT_BASE = -100;

    private static final int THING = 0, LASTING = 1, PUT_OFF = 2, DOUBLE = 3, SKIPPED = 4, FIXED = 5;
    private static final int KINDS = 6;
    private static final int KIND = 0, NUMBER = 1, PERIOD = 2, BEGIN = 3;
    private static final int MOST_THINGS = 6, MOST_NUMBER = 9, MOST_PERIOD = 60, MOST_BEGIN = 59;
    private static final int SHIFTS = 60;

    private static final int DAYS = 400, WEEK = 7, WEEKS = 57, ALL_HOLIDAYS = 127, FIXED_EVERY = 30;

    private static final int TAPE_ROOM = 160, MOST_TEXTS = 6, MOST_OPEN = 5, MOST_DIGITS = 4, MOST_TOLD = 99;
    private static final String FIRST_RULE = "costs 1 ; crowds many * many ; minds rest ;";
    private static final int COSTS_PART = 0, CROWDS_PART = 1, MINDS_PART = 2, PARTS = 3;

    // Words: first the names, by which a row keeps what they stand for, then the keys, those of the
    // parts in the order of the parts.
    private static final int DAY_NAME = 0, THING_NAME = 1, MANY_NAME = 2;
    private static final int PERIOD_NAME = 3, REST_NAME = 4, NUMBER_NAME = 5, NAMES = 6;
    private static final int COSTS = 6, CROWDS = 7, MINDS = 8, OR = 9, AND = 10, NOT = 11, WORDS = 12;

    // Tokens: a key is its own word, a sign its own byte; the others are none of these.
    private static final int END = 0, BROKEN = 1, NUMERAL = 2, NAME = 3;
    private static final String SIGNS = "();+-*<=";

    // Steps of a read text: 0 and above a number, -1 down to -6 a name, below that what to do.
    private static final int FIRST_NAME_STEP = -1;
    private static final int DO_OR = -11, DO_AND = -12, DO_NOT = -13, DO_LESS = -14, DO_EQUAL = -15;
    private static final int DO_PLUS = -16, DO_MINUS = -17, DO_TIMES = -18, DO_NEGATE = -19;
    // Five levels (or, and, < =, + -, *) may each wait with one number, in each of six brackets.
    private static final int STACK_ROOM = 5 * (MOST_OPEN + 1) + 1;

    private static final int SHEETS = 4, SHEET_ROOM = 40, MISSING = -1, BYTES = 0, SHORTS = 1, INTS = 2;
    private static final int MOST_TOLD_DAYS = 20, MOST_SEEDS = 20;

    private final Rota rota = new Rota();
    private final Rota kept = new Rota();
    private boolean hasImage;
    private final Text[] texts = new Text[MOST_TEXTS];
    private int textCount;
    private final Reader reader = new Reader();
    private final Almanac almanac;
    private final Meeting meeting = new Meeting();
    private final Diary pages = new Diary();
    private final Thing probe = new Thing();
    private final Sheet[] sheets = new Sheet[SHEETS];

    public EveryNinth() {
        for (int i = 0; i < texts.length; i++) {
            texts[i] = new Text();
        }
        for (int i = 0; i < sheets.length; i++) {
            sheets[i] = new Sheet();
        }
        for (int i = 0; i < FIRST_RULE.length(); i++) {
            reader.add(FIRST_RULE.charAt(i));
        }
        reader.read(texts[0]);
        reader.clear();
        textCount = 1;
        almanac = new Almanac(rota, texts);
    }

    // ---- things

    public int set(int what, int of, int v) {
        if (what == 0) {
            return setHolidays(v);
        }
        if (what > BEGIN || !rota.has(of) || !mayBe(what, v)) {
            return BAD;
        }
        Thing thing = rota.things[of];
        int was = thing.fact(what);
        thing.change(what, v);
        return was;
    }

    private int setHolidays(int v) {
        if (!within(v, 0, ALL_HOLIDAYS)) {
            return BAD;
        }
        int was = rota.holidays;
        rota.holidays = v;
        return was;
    }

    public int thing(int kind, int number, int what) {
        int period = what / 100;
        int begin = what % 100;
        if (!mayBe(KIND, kind) || !mayBe(NUMBER, number) || !mayBe(PERIOD, period) || !mayBe(BEGIN, begin)) {
            return BAD;
        }
        return rota.add(kind, number, period, begin);
    }

    public int told(int thing, int what) {
        return rota.has(thing) && within(what, KIND, BEGIN) ? rota.things[thing].fact(what) : BAD;
    }

    // ---- texts

    public int feed(int letter) {
        if (!within(letter, 0, 255)) {
            return BAD;
        }
        return reader.add(letter);
    }

    public int text() {
        if (textCount < 0 || textCount >= texts.length) {
            return FULL;
        }
        int fault = reader.read(texts[textCount]);
        reader.clear();
        if (fault != NONE) {
            return FAULT_BASE - fault;
        }
        textCount++;
        return textCount - 1;
    }

    public int force(int text) {
        if (!within(text, 0, textCount - 1)) {
            return BAD;
        }
        int was = rota.rule;
        rota.rule = text;
        return was;
    }

    // ---- days, the year

    public int day(int day, int what) {
        if (!isDay(day) || !within(what, 0, 2)) {
            return BAD;
        }
        switch (what) {
            case 0:
                return rota.comers(day, rota.holidays);
            case 1:
                almanac.fill(rota.holidays);
                return almanac.costsOf(day);
            default:
                return isHoliday(day, rota.holidays) ? 1 : 0;
        }
    }

    public int when(int thing, int day) {
        if (!rota.has(thing) || !isDay(day)) {
            return BAD;
        }
        return nextComing(rota.things[thing], day);
    }

    private int nextComing(Thing thing, int from) {
        for (int day = from; day < DAYS; day++) {
            if (thing.comes(day, rota.holidays)) {
                return day;
            }
        }
        return NONE;
    }

    public int often(int thing, int n) {
        if (!rota.has(thing) || !within(n, 0, DAYS)) {
            return BAD;
        }
        int times = 0;
        for (int day = 0; day < n; day++) {
            if (rota.things[thing].comes(day, rota.holidays)) {
                times++;
            }
        }
        return times;
    }

    public int year(int what) {
        if (!within(what, 0, 8)) {
            return BAD;
        }
        almanac.fill(rota.holidays);
        switch (what) {
            case 0:
                return almanac.allCosts();
            case 1:
                return almanac.daysWith(1);
            case 2:
                return almanac.daysWith(2);
            case 3:
                return almanac.restFrom(almanac.longestRest());
            case 4:
                return almanac.longestRest();
            case 5:
                return almanac.fullestWeek();
            case 6:
                return almanac.comersInWeek(almanac.fullestWeek());
            case 7:
                return almanac.dearestDay();
            default:
                return almanac.costsOf(almanac.dearestDay());
        }
    }

    // ---- meeting

    public long meet(int set) {
        return findMeeting(set) ? meeting.first : NO;
    }

    public long every(int set) {
        return findMeeting(set) ? meeting.step : NO;
    }

    private boolean findMeeting(int set) {
        if (!rota.hasAll(set)) {
            return false;
        }
        meeting.start();
        for (int i = 0; i < MOST_THINGS; i++) {
            if (hasBit(set, i) && rota.has(i) && !meeting.takeIn(rota.things[i])) {
                return false;
            }
        }
        return true;
    }

    public int why(int set) {
        if (!rota.hasAll(set)) {
            return BAD;
        }
        for (int lesser = 0; lesser < MOST_THINGS; lesser++) {
            for (int other = lesser + 1; other < MOST_THINGS; other++) {
                if (hasBit(set, lesser) && hasBit(set, other) && neverMeet(lesser, other)) {
                    return 10 * lesser + other;
                }
            }
        }
        return NONE;
    }

    private boolean neverMeet(int lesser, int other) {
        return rota.has(lesser) && rota.has(other) && !rota.things[lesser].sharesDayWith(rota.things[other]);
    }

    public long full(int part) {
        if (!within(part, 0, 1)) {
            return NO;
        }
        long above = 0;
        long below = 1;
        for (int i = 0; i < MOST_THINGS; i++) {
            if (rota.has(i)) {
                int period = rota.things[i].period;
                above = above * period + below;
                below = below * period;
            }
        }
        return inLowestTerms(above, below, part);
    }

    // ---- shifting

    public int shift(int thing) {
        if (!rota.has(thing)) {
            return BAD;
        }
        almanac.fill(rota.holidays);
        for (int days = 0; days < SHIFTS; days++) {
            almanac.putShifted(thing, days);
            if (!almanac.comesWithOthers(thing)) {
                return days;
            }
        }
        return NONE;
    }

    public int join(int thing, int other) {
        if (!rota.has(thing) || !rota.has(other) || thing == other) {
            return BAD;
        }
        for (int days = 0; days < SHIFTS; days++) {
            probe.becomeShifted(rota.things[thing], days);
            if (probe.sharesDayWith(rota.things[other])) {
                return days;
            }
        }
        return NONE;
    }

    public int goodShift(int thing, int what) {
        if (!rota.has(thing) || !within(what, 0, 1)) {
            return BAD;
        }
        almanac.fill(rota.holidays);
        int best = 0;
        int least = 0;
        for (int days = 0; days < SHIFTS; days++) {
            almanac.putShifted(thing, days);
            int costs = almanac.allCosts() + almanac.mindsOf(thing, days);
            if (days == 0 || costs < least) {
                best = days;
                least = costs;
            }
        }
        return what == 0 ? best : least;
    }

    // ---- diaries

    public int diary(int sheet, int what, int thing) {
        if (!isSheet(sheet) || !within(what, 0, 1) || (what == 1 && !rota.has(thing))) {
            return BAD;
        }
        if (sheets[sheet].isMissing()) {
            return NOTHING_THERE;
        }
        if (!pages.read(sheets[sheet])) {
            return BAD;
        }
        return what == 0 ? thingsOfPages() : kindsOfPages(thing);
    }

    private int thingsOfPages() {
        int found = 0;
        for (int i = 0; i < MOST_THINGS; i++) {
            if (rota.has(i) && pages.isOf(rota.things[i], rota.holidays)) {
                found |= 1 << i;
            }
        }
        return found;
    }

    private int kindsOfPages(int thing) {
        if (!rota.has(thing)) {
            return BAD;
        }
        int found = 0;
        probe.become(rota.things[thing]);
        for (int kind = 0; kind < KINDS; kind++) {
            probe.kind = kind;
            if (pages.isOf(probe, rota.holidays)) {
                found |= 1 << kind;
            }
        }
        return found;
    }

    public long rounds(int sheet, int what) {
        if (!isSheet(sheet) || !within(what, 0, 1) || sheets[sheet].isMissing() || !pages.read(sheets[sheet])) {
            return NO;
        }
        return what == 0 ? pages.periods() : pages.twoRounds();
    }

    public int film(int sheet, int thing, int n) {
        if (!isSheet(sheet) || !rota.has(thing) || !within(n, 1, MOST_TOLD_DAYS)) {
            return BAD;
        }
        Sheet target = sheets[sheet];
        target.become(SHORTS, n);
        Thing filmed = rota.things[thing];
        int found = 0;
        int day = nextComing(filmed, 0);
        while (found < n && day != NONE) {
            target.put(found, day);
            found++;
            day = nextComing(filmed, day + 1);
        }
        target.size = found;
        return found;
    }

    public int drawn(int seed) {
        almanac.fill(drawnHolidays(seed));
        return almanac.allCosts();
    }

    public long chance(int seed, int n, int part) {
        if (!within(n, 1, MOST_SEEDS) || !within(part, 0, 1)) {
            return NO;
        }
        int calm = 0;
        for (int i = 0; i < n; i++) {
            almanac.fill(drawnHolidays(seed + i));
            if (almanac.daysWith(2) == 0) {
                calm++;
            }
        }
        return inLowestTerms(calm, n, part);
    }

    private static int drawnHolidays(int seed) {
        int z = seed * 1103515245 + 12345;
        return (z >>> 9) % 128;
    }

    public int image() {
        kept.become(rota);
        hasImage = true;
        return kept.size;
    }

    public int back() {
        if (!hasImage) {
            return STATE;
        }
        rota.become(kept);
        return rota.size;
    }

    public int count(int what) {
        switch (what) {
            case 0:
                return rota.size;
            case 1:
                return rota.holidays;
            case 2:
                return textCount;
            case 3:
                return reader.size;
            case 4:
                return rota.rule;
            default:
                return BAD;
        }
    }

    // ---- the host

    public int sheet(int sheet, int sort, int n) {
        if (!isSheet(sheet) || !within(sort, MISSING, INTS)) {
            return BAD;
        }
        if (sort == MISSING) {
            sheets[sheet].become(MISSING, 0);
            return 1;
        }
        if (n > SHEET_ROOM) {
            return BAD;
        }
        if (n < 0) {
            return BELOW_NOTHING;
        }
        sheets[sheet].become(sort, n);
        return 1;
    }

    public int cell(int sheet, int i, int v) {
        if (!isSheet(sheet)) {
            return BAD;
        }
        Sheet target = sheets[sheet];
        if (target.isMissing()) {
            return NOTHING_THERE;
        }
        if (!target.hasItems(i, 1)) {
            return OUTSIDE;
        }
        target.put(i, v);
        return 1;
    }

    public int copy(int sheet, int i, int other, int j, int n) {
        if (!isSheet(sheet) || !isSheet(other)) {
            return BAD;
        }
        Sheet source = sheets[sheet];
        Sheet target = sheets[other];
        if (source.isMissing() || target.isMissing()) {
            return NOTHING_THERE;
        }
        if (source.sort != target.sort) {
            return OTHER_SORT;
        }
        if (!source.hasItems(i, n) || !target.hasItems(j, n)) {
            return OUTSIDE;
        }
        System.arraycopy(source.items, i, target.items, j, n);
        return n;
    }

    public int things(int sheet, int sort, int from, int n) {
        if (!isSheet(sheet) || !within(sort, BYTES, INTS) || !within(n, 0, MOST_THINGS)) {
            return BAD;
        }
        Sheet source = sheets[sheet];
        if (!source.isMissing() && source.sort != sort) {
            return OTHER_SORT;
        }
        if (source.isMissing()) {
            return NOTHING_THERE;
        }
        int came = 0;
        int at = from;
        for (int i = 0; i < n; i++) {
            if (!source.hasItems(at, 3)) {
                return OUTSIDE;
            }
            if (thing(source.items[at], source.items[at + 1], source.items[at + 2]) >= 0) {
                came++;
            }
            at += 3;
        }
        return came;
    }

    public int taken(int thing, int k) {
        if (!mayBe(KIND, k)) {
            return BAD;
        }
        if (!rota.has(thing)) {
            return NOTHING_THERE;
        }
        return rota.things[thing].isUnder(k) ? rota.things[thing].number : OTHER_SORT;
    }

    // ---- what all of it uses

    private static boolean within(int v, int least, int most) {
        return v >= least && v <= most;
    }

    private static boolean hasBit(int set, int i) {
        return (set >> i & 1) != 0;
    }

    private static boolean isDay(int day) {
        return within(day, 0, DAYS - 1);
    }

    private static boolean isSheet(int sheet) {
        return within(sheet, 0, SHEETS - 1);
    }

    private static boolean isHoliday(int day, int holidays) {
        return hasBit(holidays, day % WEEK);
    }

    private static boolean mayBe(int fact, int v) {
        switch (fact) {
            case KIND:
                return within(v, 0, KINDS - 1);
            case NUMBER:
                return within(v, 0, MOST_NUMBER);
            case PERIOD:
                return within(v, 1, MOST_PERIOD);
            case BEGIN:
                return within(v, 0, MOST_BEGIN);
            default:
                return false;
        }
    }

    private static long greatestDivisor(long a, long b) {
        long greater = a;
        long lesser = b;
        for (int i = 0; i < 1000 && lesser != 0; i++) {
            long left = greater % lesser;
            greater = lesser;
            lesser = left;
        }
        return greater;
    }

    private static long inLowestTerms(long above, long below, int part) {
        long divisor = greatestDivisor(above, below);
        long whole = part == 0 ? above : below;
        return divisor > 0 ? whole / divisor : whole;
    }

    /** One thing that comes round; its facts are always such as mayBe allows. */
    private static final class Thing {
        int kind = THING;
        int number;
        int period = 1;
        int begin;

        void become(Thing other) {
            kind = other.kind;
            number = other.number;
            period = other.period;
            begin = other.begin;
        }

        void becomeShifted(Thing other, int days) {
            become(other);
            begin = (begin + days) % SHIFTS;
        }

        int fact(int what) {
            switch (what) {
                case KIND:
                    return kind;
                case NUMBER:
                    return number;
                case PERIOD:
                    return period;
                default:
                    return begin;
            }
        }

        void change(int what, int v) {
            switch (what) {
                case NUMBER:
                    number = v;
                    break;
                case PERIOD:
                    period = v;
                    break;
                default:
                    begin = v;
                    break;
            }
        }

        boolean comes(int day, int holidays) {
            switch (kind) {
                case LASTING:
                    return lasts(day);
                case PUT_OFF:
                    return isPutOffTo(day, holidays);
                case DOUBLE:
                    return lasts(day) || inRound(day + 1);
                case SKIPPED:
                    return inRound(day) && !isHoliday(day, holidays);
                case FIXED:
                    return inRound(day) || day % FIXED_EVERY == number;
                default:
                    return inRound(day);
            }
        }

        private boolean inRound(int day) {
            return day >= begin && period > 0 && (day - begin) % period == 0;
        }

        // The last day of the round up to this one is the nearest, so it alone decides.
        private boolean lasts(int day) {
            return day >= begin && period > 0 && (day - begin) % period <= number;
        }

        private boolean isPutOffTo(int day, int holidays) {
            if (isHoliday(day, holidays)) {
                return false;
            }
            if (inRound(day)) {
                return true;
            }
            for (int back = 1; back < WEEK && back <= day && isHoliday(day - back, holidays); back++) {
                if (inRound(day - back)) {
                    return true;
                }
            }
            return false;
        }

        int spends(int v) {
            switch (kind) {
                case LASTING:
                    return lastingSpends(v);
                case DOUBLE:
                    return 2 * lastingSpends(v);
                case PUT_OFF:
                case SKIPPED:
                    return v + 1;
                default:
                    return v;
            }
        }

        private int lastingSpends(int v) {
            int parts = number + 1;
            return parts > 0 ? Math.max(v / parts, 1) : v;
        }

        boolean isUnder(int k) {
            int at = kind;
            for (int i = 0; i < KINDS && at != NONE; i++) {
                if (at == k) {
                    return true;
                }
                at = kindAbove(at);
            }
            return false;
        }

        private static int kindAbove(int kind) {
            switch (kind) {
                case LASTING:
                case PUT_OFF:
                case FIXED:
                    return THING;
                case DOUBLE:
                    return LASTING;
                case SKIPPED:
                    return PUT_OFF;
                default:
                    return NONE;
            }
        }

        // Both rounds go on without an end, so where they begin matters by the common divisor alone.
        boolean sharesDayWith(Thing other) {
            long divisor = greatestDivisor(period, other.period);
            return divisor > 0 && (begin - other.begin) % divisor == 0;
        }
    }

    /** What an image keeps. */
    private static final class Rota {
        final Thing[] things = new Thing[MOST_THINGS];
        int size;
        int holidays;
        int rule;

        Rota() {
            for (int i = 0; i < things.length; i++) {
                things[i] = new Thing();
            }
        }

        boolean has(int thing) {
            return thing >= 0 && thing < size && thing < things.length;
        }

        boolean hasAll(int set) {
            return set >= 0 && set >> size == 0;
        }

        int add(int kind, int number, int period, int begin) {
            if (size >= things.length) {
                return FULL;
            }
            Thing thing = things[size];
            thing.kind = kind;
            thing.number = number;
            thing.period = period;
            thing.begin = begin;
            size++;
            return size - 1;
        }

        void become(Rota other) {
            for (int i = 0; i < things.length; i++) {
                things[i].become(other.things[i]);
            }
            size = other.size;
            holidays = other.holidays;
            rule = other.rule;
        }

        int comers(int day, int onHolidays) {
            int set = 0;
            for (int i = 0; i < things.length; i++) {
                if (has(i) && things[i].comes(day, onHolidays)) {
                    set |= 1 << i;
                }
            }
            return set;
        }
    }

    /** The first day on which all things taken in meet, and after how many days they do again. */
    private static final class Meeting {
        long first;
        long step;

        void start() {
            first = 0;
            step = 1;
        }

        boolean takeIn(Thing thing) {
            int period = thing.period;
            long divisor = greatestDivisor(step, period);
            if (period <= 0 || divisor <= 0) {
                return false;
            }
            for (int times = 0; times < period; times++) {
                long day = first + times * step;
                if ((day - thing.begin) % period == 0) {
                    step = step / divisor * period;
                    first = notAhead(day, thing.begin);
                    return true;
                }
            }
            return false;
        }

        // The days fit the thing's round, but it may not have begun yet.
        private long notAhead(long day, int begin) {
            if (day >= begin || step <= 0) {
                return day;
            }
            return day + (begin - day + step - 1) / step * step;
        }
    }

    /** A read text: for each part the steps that reckon it, numbers ahead of what is done to them. */
    private static final class Text {
        final int[] steps = new int[TAPE_ROOM];
        private final int[] ends = new int[PARTS];
        private int size;

        void clear() {
            size = 0;
        }

        void add(int step) {
            if (size < steps.length) {
                steps[size] = step;
                size++;
            }
        }

        void endPart(int part) {
            if (part >= 0 && part < ends.length) {
                ends[part] = size;
            }
        }

        int startOf(int part) {
            return endOf(part - 1);
        }

        int endOf(int part) {
            return part >= 0 && part < ends.length ? ends[part] : 0;
        }
    }

    /** The tape, and how it is read; each method of the grammar leaves the first token behind its part. */
    private static final class Reader {
        private final int[] tape = new int[TAPE_ROOM];
        int size;
        private int at;
        private int start;
        private int token;
        private int value;
        private int fault;
        private Text target;

        int add(int letter) {
            if (size >= tape.length) {
                return FULL;
            }
            tape[size] = letter;
            size++;
            return size;
        }

        void clear() {
            size = 0;
        }

        /** The place of the fault, or NONE. */
        int read(Text text) {
            target = text;
            text.clear();
            at = 0;
            fault = NONE;
            advance();
            for (int part = 0; part < PARTS; part++) {
                need(COSTS + part);
                readOrs(0);
                need(';');
                target.endPart(part);
            }
            need(END);
            return fault;
        }

        private void need(int wanted) {
            if (token == wanted) {
                advance();
            } else {
                fail();
            }
        }

        // No rule of the grammar takes a broken token, so nothing is read behind the first fault.
        private void fail() {
            if (fault == NONE) {
                fault = start;
            }
            token = BROKEN;
        }

        private void readOrs(int open) {
            readAnds(open);
            for (int i = 0; i < TAPE_ROOM && token == OR; i++) {
                advance();
                readAnds(open);
                target.add(DO_OR);
            }
        }

        private void readAnds(int open) {
            readNot(open);
            for (int i = 0; i < TAPE_ROOM && token == AND; i++) {
                advance();
                readNot(open);
                target.add(DO_AND);
            }
        }

        private void readNot(int open) {
            if (token != NOT) {
                readComparison(open);
            } else if (open >= MOST_OPEN) {
                fail();
            } else {
                advance();
                readNot(open + 1);
                target.add(DO_NOT);
            }
        }

        private void readComparison(int open) {
            readSum(open);
            if (token == '<' || token == '=') {
                int step = token == '<' ? DO_LESS : DO_EQUAL;
                advance();
                readSum(open);
                target.add(step);
            }
        }

        private void readSum(int open) {
            readTerm(open);
            for (int i = 0; i < TAPE_ROOM && (token == '+' || token == '-'); i++) {
                int step = token == '+' ? DO_PLUS : DO_MINUS;
                advance();
                readTerm(open);
                target.add(step);
            }
        }

        private void readTerm(int open) {
            readOne(open);
            for (int i = 0; i < TAPE_ROOM && token == '*'; i++) {
                advance();
                readOne(open);
                target.add(DO_TIMES);
            }
        }

        private void readOne(int open) {
            if (token == NUMERAL) {
                target.add(value);
                advance();
            } else if (token == NAME) {
                target.add(FIRST_NAME_STEP - value);
                advance();
            } else if (token == '-' && open < MOST_OPEN) {
                advance();
                readOne(open + 1);
                target.add(DO_NEGATE);
            } else if (token == '(' && open < MOST_OPEN) {
                advance();
                readOrs(open + 1);
                need(')');
            } else {
                fail();
            }
        }

        private void advance() {
            for (int i = 0; i < TAPE_ROOM && isBlank(byteAt(at)); i++) {
                at++;
            }
            start = at;
            int letter = byteAt(at);
            if (letter == NONE) {
                token = END;
            } else if (within(letter, 'a', 'z')) {
                takeWord();
            } else if (within(letter, '0', '9')) {
                takeNumeral();
            } else {
                at++;
                token = SIGNS.indexOf((char) letter) >= 0 ? letter : BROKEN;
            }
        }

        private int byteAt(int place) {
            return place >= 0 && place < size && place < tape.length ? tape[place] : NONE;
        }

        private static boolean isBlank(int letter) {
            return letter == 32 || letter == 10;
        }

        private void takeWord() {
            for (int i = 0; i < TAPE_ROOM && within(byteAt(at), 'a', 'z'); i++) {
                at++;
            }
            token = BROKEN;
            for (int word = 0; word < WORDS; word++) {
                if (stands(spelling(word))) {
                    token = word < NAMES ? NAME : word;
                    value = word;
                }
            }
        }

        private boolean stands(String word) {
            if (word.length() != at - start || start < 0 || at > tape.length) {
                return false;
            }
            for (int i = 0; i < word.length(); i++) {
                if (word.charAt(i) != tape[start + i]) {
                    return false;
                }
            }
            return true;
        }

        private static String spelling(int word) {
            switch (word) {
                case DAY_NAME:
                    return "day";
                case THING_NAME:
                    return "thing";
                case MANY_NAME:
                    return "many";
                case PERIOD_NAME:
                    return "period";
                case REST_NAME:
                    return "rest";
                case NUMBER_NAME:
                    return "number";
                case COSTS:
                    return "costs";
                case CROWDS:
                    return "crowds";
                case MINDS:
                    return "minds";
                case OR:
                    return "or";
                case AND:
                    return "and";
                default:
                    return "not";
            }
        }

        private void takeNumeral() {
            value = 0;
            for (int i = 0; i < TAPE_ROOM && within(byteAt(at), '0', '9'); i++) {
                value = value * 10 + byteAt(at) - '0';
                at++;
            }
            token = at - start <= MOST_DIGITS ? NUMERAL : BROKEN;
        }
    }

    /** Reckons a part of a text by what the names stand for. */
    private static final class Reckoner {
        final int[] names = new int[NAMES];
        private final int[] stack = new int[STACK_ROOM];
        private int height;

        void nameDay(int day, int many, int rest) {
            names[DAY_NAME] = day;
            names[MANY_NAME] = many;
            names[REST_NAME] = rest;
        }

        void nameThing(int index, int period, int number) {
            names[THING_NAME] = index;
            names[PERIOD_NAME] = period;
            names[NUMBER_NAME] = number;
        }

        int tells(Text text, int part) {
            height = 0;
            int end = Math.min(text.endOf(part), text.steps.length);
            for (int i = Math.max(text.startOf(part), 0); i < end; i++) {
                take(text.steps[i]);
            }
            int told = height > 0 ? stack[0] : 0;
            return Math.max(0, Math.min(told, MOST_TOLD));
        }

        private void take(int step) {
            int name = FIRST_NAME_STEP - step;
            if (step >= 0) {
                push(step);
            } else if (name < names.length) {
                push(names[name]);
            } else if (step == DO_NOT || step == DO_NEGATE) {
                change(step);
            } else {
                combine(step);
            }
        }

        private void push(int v) {
            if (height >= 0 && height < stack.length) {
                stack[height] = v;
                height++;
            }
        }

        private void change(int step) {
            int top = height - 1;
            if (top >= 0 && top < stack.length) {
                int v = stack[top];
                int opposite = v == 0 ? 1 : 0;
                stack[top] = step == DO_NEGATE ? -v : opposite;
            }
        }

        private void combine(int step) {
            int top = height - 2;
            if (top >= 0 && top + 1 < stack.length) {
                stack[top] = combined(step, stack[top], stack[top + 1]);
                height--;
            }
        }

        private static int combined(int step, int a, int b) {
            switch (step) {
                case DO_OR:
                    return a != 0 || b != 0 ? 1 : 0;
                case DO_AND:
                    return a != 0 && b != 0 ? 1 : 0;
                case DO_LESS:
                    return a < b ? 1 : 0;
                case DO_EQUAL:
                    return a == b ? 1 : 0;
                case DO_PLUS:
                    return a + b;
                case DO_MINUS:
                    return a - b;
                default:
                    return a * b;
            }
        }
    }

    /** The year: who comes on its days (as filled or put last), and what that costs. */
    private static final class Almanac {
        private final Rota rota;
        private final Text[] texts;
        private final Reckoner reckoner = new Reckoner();
        private final Thing shifted = new Thing();
        private final int[] comers = new int[DAYS];
        private int holidays;

        Almanac(Rota rota, Text[] texts) {
            this.rota = rota;
            this.texts = texts;
        }

        void fill(int onHolidays) {
            holidays = onHolidays;
            for (int day = 0; day < DAYS; day++) {
                comers[day] = rota.comers(day, holidays);
            }
        }

        void putShifted(int thing, int days) {
            if (!rota.has(thing)) {
                return;
            }
            shifted.becomeShifted(rota.things[thing], days);
            int bit = 1 << thing;
            for (int day = 0; day < DAYS; day++) {
                int others = comers[day] & ~bit;
                comers[day] = shifted.comes(day, holidays) ? others | bit : others;
            }
        }

        boolean comesWithOthers(int thing) {
            int bit = 1 << thing;
            for (int day = 0; day < DAYS; day++) {
                if ((comers[day] & bit) != 0 && comers[day] != bit) {
                    return true;
                }
            }
            return false;
        }

        int costsOf(int day) {
            if (!isDay(day) || comers[day] == 0) {
                return 0;
            }
            int set = comers[day];
            int many = Integer.bitCount(set);
            Text rule = rule();
            reckoner.nameDay(day, many, restAhead(day));
            int costs = 0;
            for (int i = 0; i < MOST_THINGS; i++) {
                if (hasBit(set, i) && rota.has(i)) {
                    Thing thing = rota.things[i];
                    reckoner.nameThing(i, thing.period, thing.number);
                    costs += thing.spends(reckoner.tells(rule, COSTS_PART));
                }
            }
            if (many >= 2) {
                reckoner.nameThing(0, 0, 0);
                costs += reckoner.tells(rule, CROWDS_PART);
            }
            return costs;
        }

        int mindsOf(int thing, int days) {
            if (!rota.has(thing)) {
                return 0;
            }
            Thing minded = rota.things[thing];
            reckoner.nameDay(0, 0, days);
            reckoner.nameThing(thing, minded.period, minded.number);
            return reckoner.tells(rule(), MINDS_PART);
        }

        private Text rule() {
            return rota.rule >= 0 && rota.rule < texts.length ? texts[rota.rule] : texts[0];
        }

        private int restAhead(int day) {
            int rest = 0;
            for (int ahead = day - 1; ahead >= 0 && comers[ahead] == 0; ahead--) {
                rest++;
            }
            return rest;
        }

        int allCosts() {
            int costs = 0;
            for (int day = 0; day < DAYS; day++) {
                costs += costsOf(day);
            }
            return costs;
        }

        int daysWith(int least) {
            int days = 0;
            for (int day = 0; day < DAYS; day++) {
                if (Integer.bitCount(comers[day]) >= least) {
                    days++;
                }
            }
            return days;
        }

        /** The first day of the longest rest, or NONE. */
        int longestRest() {
            int first = NONE;
            int most = 0;
            int rest = 0;
            for (int day = 0; day < DAYS; day++) {
                rest = comers[day] == 0 ? rest + 1 : 0;
                if (rest > most) {
                    most = rest;
                    first = day - rest + 1;
                }
            }
            return first;
        }

        int restFrom(int first) {
            if (first < 0) {
                return 0;
            }
            int rest = 0;
            for (int day = first; day < DAYS && comers[day] == 0; day++) {
                rest++;
            }
            return rest;
        }

        int fullestWeek() {
            int fullest = 0;
            for (int week = 1; week < WEEKS; week++) {
                if (comersInWeek(week) > comersInWeek(fullest)) {
                    fullest = week;
                }
            }
            return fullest;
        }

        int comersInWeek(int week) {
            int many = 0;
            for (int day = WEEK * week; day < WEEK * week + WEEK; day++) {
                many += isDay(day) ? Integer.bitCount(comers[day]) : 0;
            }
            return many;
        }

        int dearestDay() {
            int dearest = 0;
            int most = 0;
            for (int day = 0; day < DAYS; day++) {
                int costs = costsOf(day);
                if (costs > most) {
                    most = costs;
                    dearest = day;
                }
            }
            return dearest;
        }
    }

    /** A row of numbers, or missing; the items always fit its sort. */
    private static final class Sheet {
        int sort = MISSING;
        int size;
        final int[] items = new int[SHEET_ROOM];

        boolean isMissing() {
            return sort == MISSING;
        }

        void become(int newSort, int newSize) {
            sort = newSort;
            size = newSize;
            for (int i = 0; i < items.length; i++) {
                items[i] = 0;
            }
        }

        // Places and numbers may be any ints: nothing here can pass an int's bounds.
        boolean hasItems(int from, int n) {
            return n >= 0 && n <= size && from >= 0 && from <= size - n && size <= items.length;
        }

        void put(int i, int v) {
            if (i < 0 || i >= items.length) {
                return;
            }
            switch (sort) {
                case BYTES:
                    items[i] = (byte) v;
                    break;
                case SHORTS:
                    items[i] = (short) v;
                    break;
                default:
                    items[i] = v;
                    break;
            }
        }
    }

    /** The days that a sheet tells. */
    private static final class Diary {
        private final int[] days = new int[MOST_TOLD_DAYS];
        private int size;
        private int first;
        private int last;
        private final boolean[] isTold = new boolean[DAYS];

        /** Whether the sheet tells days as it must. */
        boolean read(Sheet sheet) {
            if (sheet.size < 1 || sheet.size > days.length) {
                return false;
            }
            clear();
            for (int i = 0; i < sheet.size; i++) {
                int day = sheet.items[i];
                if (!isDay(day) || (i > 0 && day <= last)) {
                    return false;
                }
                days[i] = day;
                isTold[day] = true;
                last = day;
            }
            first = days[0];
            size = sheet.size;
            return true;
        }

        private void clear() {
            for (int day = 0; day < DAYS; day++) {
                isTold[day] = false;
            }
        }

        boolean isOf(Thing thing, int holidays) {
            for (int day = 0; day <= last; day++) {
                if (isTold[day] != thing.comes(day, holidays)) {
                    return false;
                }
            }
            return true;
        }

        long periods() {
            long all = (1L << MOST_PERIOD) - 1;
            if (size < 2) {
                return all;
            }
            int period = days[1] - first;
            for (int i = 2; i < size; i++) {
                if (days[i] - days[i - 1] != period) {
                    return 0;
                }
            }
            return within(period, 1, MOST_PERIOD) ? 1L << (period - 1) : 0;
        }

        int twoRounds() {
            int pairs = 0;
            for (int period = 1; period <= MOST_PERIOD; period++) {
                if (tellsRound(first, period)) {
                    pairs += secondRounds(period);
                }
            }
            return pairs;
        }

        private boolean tellsRound(int from, int period) {
            for (int day = from; period > 0 && day <= last; day += period) {
                if (!isTold[day]) {
                    return false;
                }
            }
            return true;
        }

        private int secondRounds(int period) {
            int begin = firstOutside(period);
            if (begin == NONE) {
                return MOST_PERIOD;
            }
            int rounds = 0;
            for (int second = 1; second <= MOST_PERIOD; second++) {
                if (tellsRound(begin, second) && areAll(period, begin, second)) {
                    rounds++;
                }
            }
            return rounds;
        }

        private int firstOutside(int period) {
            for (int i = 0; i < size; i++) {
                if (!isBehind(days[i], first, period)) {
                    return days[i];
                }
            }
            return NONE;
        }

        private boolean areAll(int period, int begin, int second) {
            for (int i = 0; i < size; i++) {
                if (!isBehind(days[i], first, period) && !isBehind(days[i], begin, second)) {
                    return false;
                }
            }
            return true;
        }

        private static boolean isBehind(int day, int begin, int period) {
            return day >= begin && period > 0 && (day - begin) % period == 0;
        }
    }
}
