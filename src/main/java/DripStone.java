import java.util.Arrays;

/**
 * Rain by years, a hill that keeps it, a drip that puts down stone by a law, candles of that
 * stone, and all ways in which the years can lie along them, as ../shared/DOC.md promises.
 *
 * All rows are made with the object and used again, since what calls make is never given back.
 */
public final class DripStone {
    public static final int BAD = -1, NOT = -2, FULL = -3, NONE = -4, NULL = -11, CAST = -12, INDEX = -13, SIZE = -14;

    private static final int YEARS = 24;
    private static final int CANDLES = 2;
    private static final int THINGS = 12;
    private static final int STRETCHES = 6;
    private static final int DATES = 8;
    private static final int CLAIMS = 4;
    private static final int CAUSES = 5;
    private static final int SHEETS = 4;
    private static final int LANES = 3;
    private static final int ITEMS = 24;
    private static final int TAPE = 80;
    private static final int CLAUSES = 6;
    private static final int CONDITIONS = 3;
    private static final int ATOMS = 2;
    private static final int MOST_KEPT = 5;

    private static final int AMOUNT = 0, WEIGHT = 1, HEAT = 2;
    private static final int STONE = 0, DIRT = 1, GAP = 2;
    private static final int EVEN = 0, FAST = 1, STOPPED = 2;

    /** How many PLACES one YEAR can have; a state of a WAY is a YEAR and how many it has so far. */
    private static final int RUNS = 4;
    private static final int STATES = YEARS * RUNS;
    /** The most that can be told of two ATOMS along a WAY: 0 to 12 PLACES for each. */
    private static final int MARKS = (THINGS + 1) * (THINGS + 1);

    /** Where numbers of both signs are told, refusals are this much less. */
    private static final int LESS = 1000;
    private static final int FAULT = -20;
    private static final int END = -1;

    private final State now = new State();
    private final State kept = new State();
    private final Reader reader = new Reader();
    private final Law lawDraft = new Law();
    private final Claim claimDraft = new Claim();
    private final Sheet[] sheets = {new Sheet(), new Sheet(), new Sheet(), new Sheet()};
    private final Ways[] lines = {new Ways(), new Ways()};
    /** Whether a line tells the WAYS as they are, so that many questions are counted for once. */
    private final boolean[] counted = new boolean[CANDLES];
    private final Marks marks = new Marks();
    private boolean imaged;

    public DripStone() {
    }

    // ---- 1 rain, hill, drip

    public int rain(int year, int what, int v) {
        if (!isYear(year) || !isWithin(what, AMOUNT, HEAT) || !Hill.fits(what, v)) {
            return BAD - LESS;
        }
        int was = now.hill.rain[what][year];
        now.hill.rain[what][year] = v;
        return was;
    }

    public int rains(int what, int sheet, int lane, int from, int n) {
        if (!isWithin(what, AMOUNT, HEAT) || !isRow(sheet, lane) || !isWithin(n, 1, YEARS)) {
            return BAD;
        }
        Sheet row = sheets[sheet];
        int refusal = row.refusal(lane, from, n);
        if (refusal != 0) {
            return refusal;
        }
        for (int i = 0; i < n; i++) {
            if (!Hill.fits(what, row.items[from + i])) {
                return NOT;
            }
        }
        for (int i = 0; i < n; i++) {
            now.hill.rain[what][i] = row.items[from + i];
        }
        return n;
    }

    public int set(int what, int v) {
        if (!isWithin(what, 0, 1) || !isWithin(v, 1, what == 0 ? MOST_KEPT : 9)) {
            return BAD;
        }
        Hill hill = now.hill;
        int was = what == 0 ? hill.keeps : hill.seen;
        if (what == 0) {
            hill.keeps = v;
        } else {
            hill.seen = v;
        }
        return was;
    }

    public int wet(int year) {
        return isYear(year) ? now.hill.wetBy(year, now.hill.keeps) : BAD;
    }

    public int water(int year) {
        return isYear(year) ? now.hill.waterBy(year, now.hill.keeps) : BAD - LESS;
    }

    public int type(long w, int n) {
        if (!isWithin(n, 1, 8)) {
            return BAD;
        }
        for (int i = 0; i < n; i++) {
            if (!isWithin(byteOf(w, i), 32, 126)) {
                return BAD;
            }
        }
        if (reader.typed + n > TAPE) {
            return FULL;
        }
        for (int i = n - 1; i >= 0; i--) {
            reader.tape[reader.typed] = byteOf(w, i);
            reader.typed++;
        }
        return reader.typed;
    }

    private static int byteOf(long w, int i) {
        return (int) (w >>> (8 * i)) & 255;
    }

    public int law() {
        int fault = reader.readLaw(lawDraft);
        reader.typed = 0;
        if (fault != 0) {
            return fault;
        }
        now.law.take(lawDraft);
        return now.law.clauses;
    }

    public int grows(int year) {
        return isYear(year) ? now.law.growth(now.hill, year) : BAD;
    }

    public int learn(int sheet, int lane, int from, int n, int e) {
        if (!isRow(sheet, lane) || !isWithin(n, 1, 8) || !isWithin(e, 0, 9)) {
            return BAD;
        }
        Sheet row = sheets[sheet];
        int refusal = row.refusal(lane, from, 2 * n);
        if (refusal != 0) {
            return refusal;
        }
        for (int i = 0; i < n; i++) {
            if (!isYear(row.items[from + 2 * i])) {
                return NOT;
            }
        }
        int fitting = 0;
        for (int k = 1; k <= MOST_KEPT; k++) {
            if (fitsBuckets(row, from, n, e, k)) {
                fitting |= 1 << (k - 1);
            }
        }
        return fitting == 0 ? NONE : fitting;
    }

    private boolean fitsBuckets(Sheet row, int from, int n, int e, int k) {
        for (int i = 0; i < n; i++) {
            int water = now.hill.waterBy(row.items[from + 2 * i], k);
            // an item of ints may be so great that an int could not hold the difference
            long off = (long) water - row.items[from + 2 * i + 1];
            if (water == NONE - LESS || off > e || off < -e) {
                return false;
            }
        }
        return true;
    }

    // ---- 2 candles

    public int make(int candle) {
        if (!isCandle(candle)) {
            return BAD;
        }
        if (now.law.clauses == 0) {
            return NOT;
        }
        now.candles[candle].grow(now.hill, now.law);
        now.dates.removeFrom(candle, 0);
        counted[candle] = false;
        return now.candles[candle].things;
    }

    public int truth(int candle, int thing) {
        if (!isThing(candle, thing)) {
            return BAD;
        }
        Candle c = now.candles[candle];
        if (!c.made) {
            return NOT;
        }
        return c.isPlace(thing) ? c.years[thing] : CAST;
    }

    public int put(int candle, int kind, int weight) {
        if (!isCandle(candle) || !isWithin(kind, STONE, GAP)) {
            return BAD;
        }
        if (kind == STONE ? !isWithin(weight, -50, 50) : weight != 0) {
            return BAD;
        }
        Candle c = now.candles[candle];
        if (c.things == THINGS) {
            return FULL;
        }
        c.add(kind, weight, 0);
        c.made = false;
        counted[candle] = false;
        return c.things - 1;
    }

    public int cut(int candle, int thing) {
        if (!isThing(candle, thing)) {
            return BAD;
        }
        now.candles[candle].cutFrom(thing);
        now.dates.removeFrom(candle, thing);
        counted[candle] = false;
        return thing;
    }

    public int thing(int candle, int thing, int what) {
        if (!isThing(candle, thing) || !isWithin(what, 0, 1)) {
            return BAD - LESS;
        }
        Candle c = now.candles[candle];
        if (what == 0) {
            return c.kinds[thing];
        }
        return c.kinds[thing] == STONE ? c.weights[thing] : CAST - LESS;
    }

    public int most(int candle, int n) {
        if (!isCandle(candle) || !isWithin(n, 1, RUNS)) {
            return BAD;
        }
        int was = now.candles[candle].most;
        now.candles[candle].most = n;
        counted[candle] = false;
        return was;
    }

    public int stretch(int candle, int kind, int from, int to, int n) {
        if (!isThing(candle, from) || !isThing(candle, to) || from > to || !fitsStretch(kind, n)) {
            return BAD;
        }
        Candle c = now.candles[candle];
        if (!c.isPlace(from) || !c.isPlace(to)) {
            return CAST;
        }
        if (c.stretches == STRETCHES) {
            return FULL;
        }
        c.addStretch(kind, from, to, n);
        counted[candle] = false;
        return c.stretches;
    }

    private static boolean fitsStretch(int kind, int n) {
        if (kind == EVEN) {
            return n == 0;
        }
        return kind == FAST ? isWithin(n, 1, 4) : kind == STOPPED && isWithin(n, 1, 20);
    }

    public int date(int candle, int thing, int from, int to, int dirty) {
        if (!isThing(candle, thing) || !isYear(from) || !isYear(to) || from > to || !isWithin(dirty, 0, 1)) {
            return BAD;
        }
        if (!now.candles[candle].isPlace(thing)) {
            return CAST;
        }
        if (now.dates.held == DATES) {
            return FULL;
        }
        now.dates.add(candle, thing, from, to, dirty);
        counted[candle] = false;
        return now.dates.held - 1;
    }

    public int throwOut(int date, int why) {
        if (!isWithin(date, 0, now.dates.held - 1) || !isWithin(why, 0, 9)) {
            return BAD;
        }
        int was = now.dates.reasons[date];
        now.dates.reasons[date] = why;
        counted[now.dates.candles[date]] = false;
        return was;
    }

    public int count(int what) {
        switch (what) {
            case 0: return now.dates.held;
            case 1: return now.dates.thrown();
            case 2: return now.claimed;
            case 3: return now.caused;
            case 4: return now.candles[0].things;
            case 5: return now.candles[1].things;
            case 6: return now.candles[0].places();
            case 7: return now.candles[1].places();
            default: return BAD;
        }
    }

    // ---- 3 ways

    public long ways(int candle) {
        if (!isCandle(candle)) {
            return BAD;
        }
        return now.candles[candle].places() == 0 ? NOT : lineOf(candle).total;
    }

    public int ends(int candle, int thing, int what) {
        if (!isThing(candle, thing) || !isWithin(what, 0, 1)) {
            return BAD;
        }
        if (!now.candles[candle].isPlace(thing)) {
            return CAST;
        }
        Ways line = lineOf(candle);
        return line.total == 0 ? NONE : line.endOf(line.placeOf[thing], what);
    }

    public long odds(int candle, int thing, int year, int what) {
        if (!isThing(candle, thing) || !isYear(year) || !isWithin(what, 0, 1)) {
            return BAD;
        }
        if (!now.candles[candle].isPlace(thing)) {
            return CAST;
        }
        Ways line = lineOf(candle);
        return oddsPart(line.tally(line.placeOf[thing], year), line.total, what);
    }

    public int span(int candle, int early, int late, int what) {
        if (!isPair(candle, early, late) || !isWithin(what, 0, 1)) {
            return BAD;
        }
        Candle c = now.candles[candle];
        if (!c.isPlace(early) || !c.isPlace(late)) {
            return CAST;
        }
        Ways line = lineOf(candle);
        line.measure(line.placeOf[early], line.placeOf[late]);
        return line.total == 0 ? NONE : line.distanceEnd(what);
    }

    public long apart(int candle, int early, int late, int n, int what) {
        if (!isPair(candle, early, late) || !isYear(n) || !isWithin(what, 0, 1)) {
            return BAD;
        }
        Candle c = now.candles[candle];
        if (!c.isPlace(early) || !c.isPlace(late)) {
            return CAST;
        }
        Ways line = lineOf(candle);
        line.measure(line.placeOf[early], line.placeOf[late]);
        long above = 0;
        for (int d = n; d < YEARS; d++) {
            above += line.distances[d];
        }
        return oddsPart(above, line.total, what);
    }

    public long next(int candle, int what) {
        if (!isCandle(candle) || !isWithin(what, 0, 1)) {
            return BAD;
        }
        if (now.candles[candle].places() == 0) {
            return NOT;
        }
        Ways line = lineOf(candle);
        if (line.total == 0) {
            return NONE;
        }
        int best = 0;
        for (int p = 1; p < line.places; p++) {
            if (line.worst(p) < line.worst(best)) {
                best = p;
            }
        }
        return what == 0 ? line.things[best] : line.worst(best);
    }

    public int mustGo(int candle) {
        if (!isCandle(candle)) {
            return BAD;
        }
        if (now.candles[candle].places() == 0) {
            return NOT;
        }
        int binding = now.dates.binding(candle);
        if (waysWith(candle, 0) == 0) {
            return NONE;
        }
        int fewest = binding;
        for (int bits = 0; bits < binding; bits++) {
            boolean fewer = Integer.bitCount(bits) < Integer.bitCount(fewest);
            if ((bits & ~binding) == 0 && fewer && waysWith(candle, binding & ~bits) > 0) {
                fewest = bits;
            }
        }
        return fewest;
    }

    /** Counts the WAYS as if these DATES alone were binding. */
    private long waysWith(int candle, int bound) {
        Ways line = lines[candle];
        counted[candle] = false;
        line.lay(now.candles[candle], now.dates, bound);
        line.goForward();
        return line.total;
    }

    public int leans(int date, int thing, int what) {
        if (!isWithin(date, 0, now.dates.held - 1) || !isWithin(what, 0, 1)) {
            return BAD - LESS;
        }
        int candle = now.dates.candles[date];
        if (!isThing(candle, thing)) {
            return BAD - LESS;
        }
        if (!now.candles[candle].isPlace(thing)) {
            return CAST - LESS;
        }
        int others = now.dates.binding(candle) & ~(1 << date);
        int with = endWith(candle, thing, what, others | 1 << date);
        int without = endWith(candle, thing, what, others);
        return with < 0 || without < 0 ? NONE - LESS : without - with;
    }

    private int endWith(int candle, int thing, int what, int bound) {
        if (waysWith(candle, bound) == 0) {
            return NONE;
        }
        Ways line = lines[candle];
        line.goBack();
        return line.endOf(line.placeOf[thing], what);
    }

    public int judge(int candle, int sheet, int lane, int from) {
        if (!isCandle(candle) || !isRow(sheet, lane)) {
            return BAD;
        }
        int places = now.candles[candle].places();
        if (places == 0) {
            return NOT;
        }
        int refusal = sheets[sheet].refusal(lane, from, places);
        if (refusal != 0) {
            return refusal;
        }
        Ways line = lineOf(candle);
        int wrong = line.firstWrong(sheets[sheet].items, from);
        return wrong < 0 ? NONE : line.things[wrong];
    }

    /** The line of a CANDLE with all its WAYS counted. */
    private Ways lineOf(int candle) {
        if (!counted[candle]) {
            waysWith(candle, now.dates.binding(candle));
            lines[candle].goBack();
            counted[candle] = true;
        }
        return lines[candle];
    }

    /** One part of a fraction in lowest terms; of none there are no ODDS. */
    private static long oddsPart(long above, long below, int what) {
        if (below == 0) {
            return NONE;
        }
        long divisor = greatestDivisor(above, below);
        return (what == 0 ? above : below) / Math.max(1, divisor);
    }

    private static long greatestDivisor(long a, long b) {
        long x = a;
        long y = b;
        // two longs need under a hundred steps
        for (int step = 0; step < 200 && y != 0; step++) {
            long rest = x % y;
            x = y;
            y = rest;
        }
        return x;
    }

    // ---- 4 two candles, claims, causes

    public long oneYear(int thing0, int thing1, int what) {
        if (!isThing(0, thing0) || !isThing(1, thing1) || !isWithin(what, 0, 1)) {
            return BAD;
        }
        if (!now.candles[0].isPlace(thing0) || !now.candles[1].isPlace(thing1)) {
            return CAST;
        }
        Ways line0 = lineOf(0);
        Ways line1 = lineOf(1);
        long above = sharedWays(line0.placeOf[thing0], line1.placeOf[thing1]);
        return oddsPart(above, line0.total * line1.total, what);
    }

    /** How many pairs of WAYS of both lines, tallied before, have these two in one YEAR. */
    private long sharedWays(int place0, int place1) {
        long shared = 0;
        for (int y = 0; y < YEARS; y++) {
            shared += lines[0].tally(place0, y) * lines[1].tally(place1, y);
        }
        return shared;
    }

    public long tie(int what) {
        if (!isWithin(what, 0, 2)) {
            return BAD;
        }
        if (now.candles[0].places() == 0 || now.candles[1].places() == 0) {
            return NOT;
        }
        Ways line0 = lineOf(0);
        Ways line1 = lineOf(1);
        if (line0.total == 0 || line1.total == 0) {
            return NONE;
        }
        int best0 = 0;
        int best1 = 0;
        long most = -1;
        for (int p = 0; p < line0.places; p++) {
            for (int q = 0; q < line1.places; q++) {
                long shared = sharedWays(p, q);
                if (shared > most) {
                    most = shared;
                    best0 = p;
                    best1 = q;
                }
            }
        }
        return what == 0 ? line0.things[best0] : what == 1 ? line1.things[best1] : most;
    }

    public int claim() {
        int fault = reader.readClaim(claimDraft);
        if (fault != 0) {
            reader.typed = 0;
            return fault;
        }
        // FULL is a refusal, and what is refused changes nothing: THE TAPE stays
        if (now.claimed == CLAIMS) {
            return FULL;
        }
        reader.typed = 0;
        now.claims[now.claimed].take(claimDraft);
        now.claimed++;
        return now.claimed - 1;
    }

    public long chance(int claim, int candle, int what) {
        if (!isClaim(claim) || !isCandle(candle) || !isWithin(what, 0, 1)) {
            return BAD;
        }
        if (now.candles[candle].places() == 0) {
            return NOT;
        }
        Ways line = lineOf(candle);
        if (line.total == 0) {
            return NONE;
        }
        return oddsPart(marks.waysSo(line, now.candles[candle], now.claims[claim], 0), line.total, what);
    }

    public int holds(int claim, int candle) {
        if (!isClaim(claim) || !isCandle(candle)) {
            return BAD;
        }
        Candle c = now.candles[candle];
        if (!c.made) {
            return NOT;
        }
        Claim told = now.claims[claim];
        return told.isSo(told.seenInTruth(0, c), told.seenInTruth(1, c)) ? 1 : 0;
    }

    public int looked(int claim, int candle, int p, int q, int what) {
        if (!isClaim(claim) || !isCandle(candle) || !isWithin(what, 0, 1)) {
            return BAD;
        }
        if (!isWithin(q, 1, 1000) || !isWithin(p, 0, q)) {
            return BAD;
        }
        Candle c = now.candles[candle];
        if (c.places() == 0) {
            return NOT;
        }
        Ways line = lineOf(candle);
        if (line.total == 0) {
            return NONE;
        }
        int shifts = YEARS - now.claims[claim].latest();
        if (what == 0) {
            return shifts;
        }
        int found = 0;
        for (int shift = 0; shift < shifts; shift++) {
            if (marks.waysSo(line, c, now.claims[claim], shift) * q >= line.total * p) {
                found++;
            }
        }
        return found;
    }

    public int cause(int low, int high) {
        if (!isWithin(low, -30, 30) || !isWithin(high, low, 30)) {
            return BAD;
        }
        if (now.caused == CAUSES) {
            return FULL;
        }
        now.lows[now.caused] = low;
        now.highs[now.caused] = high;
        now.caused++;
        return now.caused - 1;
    }

    public int says(int candle, int early, int late, int what) {
        if (!isPair(candle, early, late) || !isWithin(what, 0, 2)) {
            return BAD;
        }
        Candle c = now.candles[candle];
        if (c.kinds[early] != STONE || c.kinds[late] != STONE) {
            return CAST;
        }
        int change = c.weights[late] - c.weights[early];
        int sets = 0;
        int fewest = 0;
        int common = (1 << now.caused) - 1;
        for (int bits = 1; bits < 1 << now.caused; bits++) {
            if (now.canSay(bits, change)) {
                sets++;
                common &= bits;
                if (fewest == 0 || Integer.bitCount(bits) < Integer.bitCount(fewest)) {
                    fewest = bits;
                }
            }
        }
        if (what == 0) {
            return sets;
        }
        return sets == 0 ? NONE : what == 1 ? fewest : common;
    }

    public int image() {
        kept.take(now);
        imaged = true;
        return 1;
    }

    public int restore() {
        if (!imaged) {
            return NONE;
        }
        now.take(kept);
        counted[0] = false;
        counted[1] = false;
        return 1;
    }

    // ---- 5 sheets

    public int sheet(int sheet, int lane, int n) {
        if (!isRow(sheet, lane) || n > ITEMS) {
            return BAD;
        }
        if (n < 0) {
            return SIZE;
        }
        sheets[sheet].begin(lane, n);
        return n;
    }

    public int drop(int sheet) {
        if (!isWithin(sheet, 0, SHEETS - 1)) {
            return BAD;
        }
        Sheet row = sheets[sheet];
        if (!row.there) {
            return NULL;
        }
        row.there = false;
        return row.size;
    }

    public int item(int sheet, int lane, int i, int v) {
        if (!isRow(sheet, lane)) {
            return BAD;
        }
        int refusal = sheets[sheet].refusal(lane, i, 1);
        if (refusal != 0) {
            return refusal;
        }
        sheets[sheet].write(i, v);
        return 1;
    }

    // ---- what numbers name

    private static boolean isWithin(int v, int low, int high) {
        return v >= low && v <= high;
    }

    private static boolean isYear(int year) {
        return isWithin(year, 0, YEARS - 1);
    }

    private static boolean isCandle(int candle) {
        return isWithin(candle, 0, CANDLES - 1);
    }

    private static boolean isRow(int sheet, int lane) {
        return isWithin(sheet, 0, SHEETS - 1) && isWithin(lane, 0, LANES - 1);
    }

    private boolean isThing(int candle, int thing) {
        return isCandle(candle) && isWithin(thing, 0, now.candles[candle].things - 1);
    }

    private boolean isPair(int candle, int early, int late) {
        return isThing(candle, early) && isThing(candle, late) && early < late;
    }

    private boolean isClaim(int claim) {
        return isWithin(claim, 0, now.claimed - 1);
    }

    /** All that an IMAGE keeps. */
    private static final class State {
        final Hill hill = new Hill();
        final Law law = new Law();
        final Candle[] candles = {new Candle(), new Candle()};
        final Dates dates = new Dates();
        final Claim[] claims = {new Claim(), new Claim(), new Claim(), new Claim()};
        final int[] lows = new int[CAUSES];
        final int[] highs = new int[CAUSES];
        int claimed;
        int caused;

        void take(State other) {
            hill.take(other.hill);
            law.take(other.law);
            dates.take(other.dates);
            for (int i = 0; i < CANDLES; i++) {
                candles[i].take(other.candles[i]);
            }
            for (int i = 0; i < CLAIMS; i++) {
                claims[i].take(other.claims[i]);
            }
            copyRow(other.lows, lows);
            copyRow(other.highs, highs);
            claimed = other.claimed;
            caused = other.caused;
        }

        boolean canSay(int bits, int change) {
            int low = 0;
            int high = 0;
            for (int i = 0; i < caused; i++) {
                if ((bits >> i & 1) == 1) {
                    low += lows[i];
                    high += highs[i];
                }
            }
            return isWithin(change, low, high);
        }
    }

    private static void copyRow(int[] from, int[] to) {
        System.arraycopy(from, 0, to, 0, Math.min(from.length, to.length));
    }

    /** The rain of all YEARS and how the hill keeps it. */
    private static final class Hill {
        final int[][] rain = new int[3][YEARS];
        int keeps = 1;
        int seen = 3;

        static boolean fits(int what, int v) {
            return what == WEIGHT ? isWithin(v, -20, 20) : isWithin(v, 0, 9);
        }

        int wetBy(int year, int k) {
            int wet = 0;
            for (int y = Math.max(0, year - k + 1); y <= year; y++) {
                wet += rain[AMOUNT][y];
            }
            return wet;
        }

        /** WATER can be of both signs, so that there is none is told as the refusal for these. */
        int waterBy(int year, int k) {
            int wet = wetBy(year, k);
            if (wet == 0) {
                return NONE - LESS;
            }
            int sum = 0;
            for (int y = Math.max(0, year - k + 1); y <= year; y++) {
                sum += rain[AMOUNT][y] * rain[WEIGHT][y];
            }
            return sum / wet;
        }

        void take(Hill other) {
            for (int what = AMOUNT; what <= HEAT; what++) {
                copyRow(other.rain[what], rain[what]);
            }
            keeps = other.keeps;
            seen = other.seen;
        }
    }

    /** THE LAW, read; without CLAUSES there is none. */
    private static final class Law {
        final int[] digits = new int[CLAUSES];
        /** How many CONDITIONS a CLAUSE has; without one it always holds. */
        final int[] conditions = new int[CLAUSES];
        final int[] subjects = new int[CLAUSES * CONDITIONS];
        final int[] signs = new int[CLAUSES * CONDITIONS];
        final int[] numbers = new int[CLAUSES * CONDITIONS];
        int clauses;

        int growth(Hill hill, int year) {
            int wet = hill.wetBy(year, hill.keeps);
            if (wet == 0) {
                return 0;
            }
            for (int c = 0; c < clauses; c++) {
                if (isMet(c, hill.rain[AMOUNT][year], hill.rain[HEAT][year], wet)) {
                    return digits[c];
                }
            }
            return 0;
        }

        private boolean isMet(int clause, int amount, int heat, int wet) {
            for (int j = 0; j < conditions[clause]; j++) {
                int at = clause * CONDITIONS + j;
                int value = subjects[at] == 'a' ? amount : subjects[at] == 'h' ? heat : wet;
                int order = Integer.compare(value, numbers[at]);
                int asked = signs[at] == '<' ? -1 : signs[at] == '>' ? 1 : 0;
                if (order != asked) {
                    return false;
                }
            }
            return true;
        }

        void take(Law other) {
            copyRow(other.digits, digits);
            copyRow(other.conditions, conditions);
            copyRow(other.subjects, subjects);
            copyRow(other.signs, signs);
            copyRow(other.numbers, numbers);
            clauses = other.clauses;
        }
    }

    /** A row of THINGS with its STRETCHES. */
    private static final class Candle {
        final int[] kinds = new int[THINGS];
        final int[] weights = new int[THINGS];
        /** The YEARS of TRUTH; they say nothing if the CANDLE is not made. */
        final int[] years = new int[THINGS];
        final int[] stretchKinds = new int[STRETCHES];
        final int[] firsts = new int[STRETCHES];
        final int[] lasts = new int[STRETCHES];
        final int[] sizes = new int[STRETCHES];
        int things;
        int stretches;
        int most = 2;
        boolean made;

        boolean isPlace(int thing) {
            return kinds[thing] != GAP;
        }

        int places() {
            int places = 0;
            for (int t = 0; t < things; t++) {
                places += isPlace(t) ? 1 : 0;
            }
            return places;
        }

        /** What does not fit is not put down. */
        void add(int kind, int weight, int year) {
            if (things < THINGS) {
                kinds[things] = kind;
                weights[things] = weight;
                years[things] = year;
                things++;
            }
        }

        void grow(Hill hill, Law law) {
            things = 0;
            stretches = 0;
            made = true;
            int last = -1;
            for (int year = 0; year < YEARS; year++) {
                int growth = law.growth(hill, year);
                if (growth > 0) {
                    if (last >= 0 && year - last - 1 >= hill.seen) {
                        add(GAP, 0, year);
                    }
                    for (int i = 0; i < growth; i++) {
                        add(STONE, hill.waterBy(year, hill.keeps) - hill.rain[HEAT][year], year);
                    }
                    last = year;
                }
            }
        }

        void addStretch(int kind, int from, int to, int n) {
            stretchKinds[stretches] = kind;
            firsts[stretches] = from;
            lasts[stretches] = to;
            sizes[stretches] = n;
            stretches++;
        }

        void cutFrom(int thing) {
            int was = stretches;
            things = thing;
            made = false;
            stretches = 0;
            for (int s = 0; s < was; s++) {
                if (lasts[s] < thing) {
                    addStretch(stretchKinds[s], firsts[s], lasts[s], sizes[s]);
                }
            }
        }

        void take(Candle other) {
            copyRow(other.kinds, kinds);
            copyRow(other.weights, weights);
            copyRow(other.years, years);
            copyRow(other.stretchKinds, stretchKinds);
            copyRow(other.firsts, firsts);
            copyRow(other.lasts, lasts);
            copyRow(other.sizes, sizes);
            things = other.things;
            stretches = other.stretches;
            most = other.most;
            made = other.made;
        }
    }

    /** The DATES of both CANDLES, as they came. */
    private static final class Dates {
        final int[] candles = new int[DATES];
        final int[] things = new int[DATES];
        final int[] froms = new int[DATES];
        final int[] tos = new int[DATES];
        final int[] dirts = new int[DATES];
        final int[] reasons = new int[DATES];
        int held;

        void add(int candle, int thing, int from, int to, int dirty) {
            candles[held] = candle;
            things[held] = thing;
            froms[held] = from;
            tos[held] = to;
            dirts[held] = dirty;
            reasons[held] = 0;
            held++;
        }

        void removeFrom(int candle, int thing) {
            int was = held;
            held = 0;
            for (int d = 0; d < was; d++) {
                if (candles[d] != candle || things[d] < thing) {
                    int why = reasons[d];
                    add(candles[d], things[d], froms[d], tos[d], dirts[d]);
                    reasons[held - 1] = why;
                }
            }
        }

        int thrown() {
            int thrown = 0;
            for (int d = 0; d < held; d++) {
                thrown += reasons[d] == 0 ? 0 : 1;
            }
            return thrown;
        }

        /** The DATES of a CANDLE that are not THROWN, as bits. */
        int binding(int candle) {
            int bits = 0;
            for (int d = 0; d < held; d++) {
                if (candles[d] == candle && reasons[d] == 0) {
                    bits |= 1 << d;
                }
            }
            return bits;
        }

        void take(Dates other) {
            copyRow(other.candles, candles);
            copyRow(other.things, things);
            copyRow(other.froms, froms);
            copyRow(other.tos, tos);
            copyRow(other.dirts, dirts);
            copyRow(other.reasons, reasons);
            held = other.held;
        }
    }

    /** A CLAIM, read. */
    private static final class Claim {
        /** For each ATOM the sign of what it counts: *, < or >. */
        final int[] tests = new int[ATOMS];
        final int[] weights = new int[ATOMS];
        final int[] firsts = new int[ATOMS];
        final int[] lasts = new int[ATOMS];
        final int[] goals = new int[ATOMS];
        final boolean[] negated = new boolean[ATOMS];
        int atoms;
        boolean either;

        boolean counts(int atom, Candle candle, int thing) {
            if (tests[atom] == '*') {
                return candle.isPlace(thing);
            }
            int weight = candle.weights[thing];
            boolean fits = tests[atom] == '<' ? weight < weights[atom] : weight > weights[atom];
            return candle.kinds[thing] == STONE && fits;
        }

        int seenInTruth(int atom, Candle candle) {
            int seen = 0;
            for (int t = 0; t < candle.things; t++) {
                if (counts(atom, candle, t) && isWithin(candle.years[t], firsts[atom], lasts[atom])) {
                    seen++;
                }
            }
            return seen;
        }

        /** Whether it is so if the ATOMS have seen so many PLACES. */
        boolean isSo(int seen0, int seen1) {
            boolean so0 = seen0 >= goals[0] != negated[0];
            boolean so1 = seen1 >= goals[1] != negated[1];
            if (atoms == 1) {
                return so0;
            }
            return either ? so0 || so1 : so0 && so1;
        }

        int latest() {
            return atoms == 1 ? lasts[0] : Math.max(lasts[0], lasts[1]);
        }

        void take(Claim other) {
            copyRow(other.tests, tests);
            copyRow(other.weights, weights);
            copyRow(other.firsts, firsts);
            copyRow(other.lasts, lasts);
            copyRow(other.goals, goals);
            for (int i = 0; i < ATOMS; i++) {
                negated[i] = other.negated[i];
            }
            atoms = other.atoms;
            either = other.either;
        }
    }

    /** THE TAPE, and how TEXTS are read from it; a FAULT ends the reading. */
    private static final class Reader {
        final int[] tape = new int[TAPE];
        int typed;
        private int at;
        private int fault;

        int readLaw(Law law) {
            at = 0;
            boolean goesOn = true;
            for (int c = 0; c < CLAUSES && goesOn; c++) {
                if (!readClause(law, c)) {
                    return fault;
                }
                law.clauses = c + 1;
                goesOn = law.clauses < CLAUSES && reads(';');
            }
            return look() == END || fails(at) ? 0 : fault;
        }

        private boolean readClause(Law law, int clause) {
            law.conditions[clause] = 0;
            if (!reads('*') && !readConditions(law, clause)) {
                return false;
            }
            if (!wants(':')) {
                return false;
            }
            int digit = look();
            if (!isWithin(digit, '0', '4')) {
                return fails(at);
            }
            law.digits[clause] = digit - '0';
            at++;
            return true;
        }

        private boolean readConditions(Law law, int clause) {
            boolean goesOn = true;
            for (int j = 0; j < CONDITIONS && goesOn; j++) {
                int to = clause * CONDITIONS + j;
                law.subjects[to] = look();
                if (!reads('a') && !reads('h') && !reads('w')) {
                    return fails(at);
                }
                law.signs[to] = look();
                if (!reads('<') && !reads('>') && !reads('=')) {
                    return fails(at);
                }
                law.numbers[to] = readNumber(0, 99);
                if (law.numbers[to] < 0) {
                    return false;
                }
                law.conditions[clause] = j + 1;
                goesOn = j + 1 < CONDITIONS && reads('&');
            }
            return true;
        }

        int readClaim(Claim claim) {
            at = 0;
            claim.either = false;
            boolean goesOn = true;
            for (int k = 0; k < ATOMS && goesOn; k++) {
                if (!readAtom(claim, k)) {
                    return fault;
                }
                claim.atoms = k + 1;
                claim.either = claim.either || look() == '|';
                goesOn = claim.atoms < ATOMS && (reads('|') || reads('&'));
            }
            return look() == END || fails(at) ? 0 : fault;
        }

        private boolean readAtom(Claim claim, int k) {
            claim.negated[k] = reads('!');
            claim.tests[k] = '*';
            if (!reads('*') && !readWeight(claim, k)) {
                return false;
            }
            if (!wants('@')) {
                return false;
            }
            claim.firsts[k] = readNumber(0, YEARS - 1);
            if (claim.firsts[k] < 0 || !wants('-')) {
                return false;
            }
            claim.lasts[k] = readNumber(claim.firsts[k], YEARS - 1);
            if (claim.lasts[k] < 0 || !wants('#')) {
                return false;
            }
            claim.goals[k] = readNumber(1, THINGS);
            return claim.goals[k] >= 0;
        }

        private boolean readWeight(Claim claim, int k) {
            if (!wants('w')) {
                return false;
            }
            claim.tests[k] = look();
            if (!reads('<') && !reads('>')) {
                return fails(at);
            }
            look();
            int start = at;
            boolean minus = reads('-');
            int size = readNumberOf(start, 0, 50);
            claim.weights[k] = minus ? -size : size;
            return size >= 0;
        }

        /** The next byte that is no blank; it stays unread. */
        private int look() {
            while (at < typed && tape[at] == ' ') {
                at++;
            }
            return at < typed ? tape[at] : END;
        }

        private boolean reads(int sign) {
            if (look() != sign) {
                return false;
            }
            at++;
            return true;
        }

        private boolean wants(int sign) {
            return reads(sign) || fails(at);
        }

        private boolean fails(int place) {
            fault = FAULT - place;
            return false;
        }

        private int readNumber(int low, int high) {
            look();
            return readNumberOf(at, low, high);
        }

        /** A number whose FAULT is told at a start of its own; -1 if there is a FAULT. */
        private int readNumberOf(int start, int low, int high) {
            look();
            int first = at;
            int value = 0;
            while (at < typed && isWithin(tape[at], '0', '9')) {
                // no number may be as great as this, so that it need not grow on
                value = Math.min(1000, value * 10 + tape[at] - '0');
                at++;
            }
            if (at == first) {
                fails(at);
                return -1;
            }
            if (!isWithin(value, low, high)) {
                fails(start);
                return -1;
            }
            return value;
        }
    }

    /** A SHEET: nothing, or a row of a LANE. */
    private static final class Sheet {
        final int[] items = new int[ITEMS];
        int lane;
        int size;
        boolean there;

        void begin(int newLane, int n) {
            there = true;
            lane = newLane;
            size = n;
            Arrays.fill(items, 0);
        }

        /** What stands against n items from one on, taken as a row of a LANE; 0 if nothing. */
        int refusal(int asLane, int from, int n) {
            if (!there) {
                return NULL;
            }
            if (lane != asLane) {
                return CAST;
            }
            return from < 0 || from > size - n ? INDEX : 0;
        }

        void write(int i, int v) {
            items[i] = lane == 0 ? (byte) v : lane == 1 ? (short) v : v;
        }
    }

    /**
     * All WAYS of one CANDLE, counted place by place. A WAY never goes back, so that the PLACES
     * of a YEAR stand together, and all that binds the PLACES behind one is in its state: its
     * YEAR, and how many PLACES of that YEAR there are up to it.
     */
    private static final class Ways {
        final int[] things = new int[THINGS];
        final int[] placeOf = new int[THINGS];
        final int[] earliest = new int[THINGS];
        final int[] latest = new int[THINGS];
        /** From the PLACE ahead to this one: the least and the most YEARS between. */
        final int[] least = new int[THINGS];
        final int[] furthest = new int[THINGS];
        /** How many PLACES the YEAR of the PLACE ahead must have where this one's is another. */
        final int[] needed = new int[THINGS];
        final long[][] fore = new long[THINGS][STATES];
        final long[][] back = new long[THINGS][STATES];
        final long[] distances = new long[YEARS];
        private final int[] unmarked = new int[YEARS];
        private final long[] here = new long[STATES];
        private final long[] there = new long[STATES];
        int most;
        int places;
        long total;

        void lay(Candle candle, Dates dates, int bound) {
            most = candle.most;
            layPlaces(candle);
            for (int s = 0; s < candle.stretches; s++) {
                layStretch(candle, s);
            }
            for (int d = 0; d < dates.held; d++) {
                if ((bound >> d & 1) == 1) {
                    layDate(dates, d);
                }
            }
        }

        private void layPlaces(Candle candle) {
            places = 0;
            boolean gap = false;
            for (int t = 0; t < candle.things; t++) {
                placeOf[t] = places;
                if (candle.isPlace(t)) {
                    things[places] = t;
                    earliest[places] = 0;
                    latest[places] = YEARS - 1;
                    least[places] = gap ? 2 : 0;
                    furthest[places] = YEARS - 1;
                    needed[places] = 1;
                    places++;
                }
                gap = !candle.isPlace(t);
            }
        }

        private void layStretch(Candle candle, int s) {
            int size = candle.sizes[s];
            for (int p = 1; p < places; p++) {
                if (things[p - 1] >= candle.firsts[s] && things[p] <= candle.lasts[s]) {
                    if (candle.stretchKinds[s] == STOPPED) {
                        least[p] = Math.max(least[p], size);
                    } else {
                        furthest[p] = 1;
                        needed[p] = Math.max(needed[p], size);
                    }
                }
            }
        }

        private void layDate(Dates dates, int d) {
            int p = placeOf[dates.things[d]];
            earliest[p] = Math.max(earliest[p], dates.froms[d]);
            if (dates.dirts[d] == 0) {
                latest[p] = Math.min(latest[p], dates.tos[d]);
            }
        }

        void goForward() {
            total = 0;
            if (places == 0) {
                return;
            }
            Arrays.fill(fore[0], 0L);
            start(fore[0], unmarked);
            for (int p = 1; p < places; p++) {
                Arrays.fill(fore[p], 0L);
                advance(fore[p - 1], fore[p], p, unmarked);
            }
            for (int s = 0; s < STATES; s++) {
                total += fore[places - 1][s];
            }
        }

        /** Puts the first PLACE into each YEAR that it may have, under the mark told for it. */
        void start(long[] to, int[] into) {
            for (int y = earliest[0]; y <= latest[0]; y++) {
                to[into[y] * STATES + y * RUNS] = 1;
            }
        }

        /**
         * Adds to the states of place p what comes of those of the place ahead; into tells, by
         * the YEAR of p, the mark that they bear then.
         */
        void advance(long[] from, long[] to, int p, int[] into) {
            int near = Math.max(1, least[p]);
            boolean moves = near <= furthest[p];
            long moving = 0;
            for (int y = firstYear(from); y <= latest[p]; y++) {
                if (moves) {
                    moving += leaving(from, y - near, p) - leaving(from, y - furthest[p] - 1, p);
                }
                if (y >= earliest[p]) {
                    int at = into[y] * STATES + y * RUNS;
                    to[at] += moving;
                    for (int r = 1; r < most && least[p] == 0; r++) {
                        to[at + r] += from[y * RUNS + r - 1];
                    }
                }
            }
        }

        /** The first YEAR that a state is of; YEARS, if there is none. */
        private static int firstYear(long[] states) {
            int at = 0;
            while (at < STATES && states[at] == 0) {
                at++;
            }
            return at / RUNS;
        }

        /** How many come from a YEAR that has as many PLACES as place p, of another, needs. */
        private long leaving(long[] from, int year, int p) {
            long sum = 0;
            if (year >= 0) {
                for (int r = needed[p] - 1; r < most; r++) {
                    sum += from[year * RUNS + r];
                }
            }
            return sum;
        }

        /** Tells for each state of each place in how many ways the places behind it can go on. */
        void goBack() {
            if (places > 0) {
                Arrays.fill(back[places - 1], 1L);
            }
            for (int p = places - 1; p > 0; p--) {
                retreat(back[p], back[p - 1], p);
            }
        }

        private void retreat(long[] from, long[] to, int p) {
            int near = Math.max(1, least[p]);
            boolean moves = near <= furthest[p];
            long moving = 0;
            for (int y = YEARS - 1; y >= 0; y--) {
                if (moves) {
                    moving += arriving(from, y + near, p) - arriving(from, y + furthest[p] + 1, p);
                }
                boolean stays = least[p] == 0 && isWithin(y, earliest[p], latest[p]);
                for (int r = 0; r < most; r++) {
                    int at = y * RUNS + r;
                    long goingOn = r + 1 >= needed[p] ? moving : 0;
                    to[at] = stays && r + 1 < most ? goingOn + from[at + 1] : goingOn;
                }
            }
        }

        private long arriving(long[] from, int year, int p) {
            return isWithin(year, earliest[p], latest[p]) ? from[year * RUNS] : 0;
        }

        /** How many WAYS have place p in a YEAR. */
        long tally(int p, int year) {
            return meeting(fore[p], p, year);
        }

        private long meeting(long[] states, int p, int year) {
            long sum = 0;
            for (int r = 0; r < most; r++) {
                sum += states[year * RUNS + r] * back[p][year * RUNS + r];
            }
            return sum;
        }

        long worst(int p) {
            long worst = 0;
            for (int y = 0; y < YEARS; y++) {
                worst = Math.max(worst, tally(p, y));
            }
            return worst;
        }

        /** The least (0) or the most (1) YEAR of place p; there must be a WAY. */
        int endOf(int p, int what) {
            int end = 0;
            for (int y = 0; y < YEARS; y++) {
                int year = what == 0 ? YEARS - 1 - y : y;
                if (tally(p, year) > 0) {
                    end = year;
                }
            }
            return end;
        }

        /** Fills distances: how many WAYS have the two places so many YEARS apart. */
        void measure(int early, int late) {
            Arrays.fill(distances, 0L);
            for (int y = earliest[early]; y <= latest[early]; y++) {
                measureFrom(early, late, y);
            }
        }

        private void measureFrom(int early, int late, int year) {
            long[] from = here;
            long[] to = there;
            Arrays.fill(from, 0L);
            for (int r = 0; r < most; r++) {
                from[year * RUNS + r] = fore[early][year * RUNS + r];
            }
            for (int p = early + 1; p <= late; p++) {
                Arrays.fill(to, 0L);
                advance(from, to, p, unmarked);
                long[] spare = from;
                from = to;
                to = spare;
            }
            for (int y = year; y < YEARS; y++) {
                distances[y - year] += meeting(from, late, y);
            }
        }

        /** The least (0) or the most (1) distance measured; there must be a WAY. */
        int distanceEnd(int what) {
            int end = 0;
            for (int i = 0; i < YEARS; i++) {
                int d = what == 0 ? YEARS - 1 - i : i;
                if (distances[d] > 0) {
                    end = d;
                }
            }
            return end;
        }

        /** The first place whose told YEAR can't be so behind those ahead of it; -1 if none. */
        int firstWrong(int[] told, int from) {
            int run = 0;
            for (int p = 0; p < places; p++) {
                int year = told[from + p];
                if (!isWithin(year, earliest[p], latest[p])) {
                    return p;
                }
                if (p > 0 && !follows(told[from + p - 1], run, year, p)) {
                    return p;
                }
                run = p > 0 && told[from + p - 1] == year ? run + 1 : 1;
            }
            return -1;
        }

        private boolean follows(int ahead, int run, int year, int p) {
            if (year == ahead) {
                return least[p] == 0 && run < most;
            }
            return isWithin(year - ahead, Math.max(1, least[p]), furthest[p]) && run >= needed[p];
        }
    }

    /**
     * Counts the WAYS for which a CLAIM is so. A WAY bears a mark along the CANDLE: how many
     * PLACES each ATOM has seen, no more than it asks for.
     */
    private static final class Marks {
        private final boolean[] places0 = new boolean[THINGS];
        private final boolean[] places1 = new boolean[THINGS];
        private final boolean[] years0 = new boolean[YEARS];
        private final boolean[] years1 = new boolean[YEARS];
        private final int[] into = new int[YEARS];
        /** The states of each mark, one block behind the other. */
        private final long[] blocks = new long[MARKS * STATES];
        private final long[] lifted = new long[STATES];
        private int goal0;
        private int goal1;

        long waysSo(Ways line, Candle candle, Claim claim, int shift) {
            if (line.places == 0) {
                return 0;
            }
            ask(line, candle, claim, shift);
            Arrays.fill(blocks, 0, (goal0 + 1) * (goal1 + 1) * STATES, 0L);
            tellMarks(0, 0, 0);
            line.start(blocks, into);
            for (int p = 1; p < line.places; p++) {
                advanceAll(line, p);
            }
            return sumSo(claim);
        }

        /** Notes which places and YEARS each ATOM counts, and how many it needs to have seen. */
        private void ask(Ways line, Candle candle, Claim claim, int shift) {
            goal0 = goalOf(0, line, candle, claim);
            goal1 = goalOf(1, line, candle, claim);
            for (int p = 0; p < line.places; p++) {
                places0[p] = claim.counts(0, candle, line.things[p]);
                places1[p] = claim.counts(1, candle, line.things[p]);
            }
            for (int y = 0; y < YEARS; y++) {
                years0[y] = isWithin(y - shift, claim.firsts[0], claim.lasts[0]);
                years1[y] = isWithin(y - shift, claim.firsts[1], claim.lasts[1]);
            }
        }

        /** What an ATOM asks for; 0, so that nothing is kept for it, if it is not there or never met. */
        private static int goalOf(int atom, Ways line, Candle candle, Claim claim) {
            int most = (claim.lasts[atom] - claim.firsts[atom] + 1) * line.most;
            int there = 0;
            for (int p = 0; p < line.places; p++) {
                there += claim.counts(atom, candle, line.things[p]) ? 1 : 0;
            }
            boolean meetable = atom < claim.atoms && claim.goals[atom] <= Math.min(most, there);
            return meetable ? claim.goals[atom] : 0;
        }

        /** Marks never get less, so that with the greatest first no block is moved twice. */
        private void advanceAll(Ways line, int p) {
            // of the p places ahead none has been seen more than once
            for (int seen0 = Math.min(goal0, p); seen0 >= 0; seen0--) {
                for (int seen1 = Math.min(goal1, p); seen1 >= 0; seen1--) {
                    lift(markOf(seen0, seen1));
                    tellMarks(seen0, seen1, p);
                    line.advance(lifted, blocks, p, into);
                }
            }
        }

        private void lift(int mark) {
            int base = mark * STATES;
            System.arraycopy(blocks, base, lifted, 0, STATES);
            Arrays.fill(blocks, base, base + STATES, 0L);
        }

        /** The mark behind place p, by its YEAR, of a WAY that had seen so many ahead of it. */
        private void tellMarks(int seen0, int seen1, int p) {
            boolean counts0 = seen0 < goal0 && places0[p];
            boolean counts1 = seen1 < goal1 && places1[p];
            for (int y = 0; y < YEARS; y++) {
                int more0 = counts0 && years0[y] ? 1 : 0;
                int more1 = counts1 && years1[y] ? 1 : 0;
                into[y] = markOf(seen0 + more0, seen1 + more1);
            }
        }

        private int markOf(int seen0, int seen1) {
            return seen0 * (goal1 + 1) + seen1;
        }

        private long sumSo(Claim claim) {
            long sum = 0;
            for (int seen0 = 0; seen0 <= goal0; seen0++) {
                for (int seen1 = 0; seen1 <= goal1; seen1++) {
                    int base = markOf(seen0, seen1) * STATES;
                    boolean so = claim.isSo(seen0, seen1);
                    for (int s = 0; s < STATES && so; s++) {
                        sum += blocks[base + s];
                    }
                }
            }
            return sum;
        }
    }
}
