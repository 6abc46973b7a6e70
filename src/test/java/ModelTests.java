import java.lang.reflect.Method;
import java.math.BigInteger;
import java.util.ArrayList;
import java.util.Arrays;
import java.util.HashMap;
import java.util.List;
import java.util.Map;

/**
 * Random runs of calls, the same ones each time, on a DripStone and on a plain model that writes
 * down every WAY one by one. Every answer of both must be the same.
 */
public final class ModelTests {
    /** How many WAYS the model writes down at most; a call that needs more is not made. */
    static final int WRITTEN = 4000;

    private final Map<String, Method> real = new HashMap<>();
    private final Map<String, Method> modelled = new HashMap<>();
    private final Map<String, long[]> seen = new HashMap<>();
    private long seed;
    private DripStone stone;
    private Model model;
    private List<String> calls;
    private int wrong;

    public static void main(String[] args) throws Exception {
        ModelTests tests = new ModelTests();
        int runs = args.length > 0 ? Integer.parseInt(args[0]) : 300;
        long first = args.length > 1 ? Long.parseLong(args[1]) : 1;
        for (int run = 0; run < runs && tests.wrong < 5; run++) {
            tests.run(first + run);
        }
        tests.tellSeen(args.length > 0);
        System.out.println(tests.wrong == 0 ? "all runs agree with the model" : tests.wrong + " runs do not agree");
        if (tests.wrong != 0) {
            System.exit(1);
        }
    }

    private ModelTests() {
        for (Method m : DripStone.class.getDeclaredMethods()) {
            if (java.lang.reflect.Modifier.isPublic(m.getModifiers())) {
                real.put(m.getName(), m);
            }
        }
        for (Method m : Model.class.getDeclaredMethods()) {
            modelled.put(m.getName(), m);
        }
    }

    /** A promise whose call never answered anything but a refusal, or never refused, is not tested. */
    private void tellSeen(boolean loud) {
        for (String name : real.keySet()) {
            long[] n = seen.getOrDefault(name, new long[2]);
            if (loud) {
                System.out.println(name + " answered " + n[0] + ", refused " + n[1]);
            }
            boolean alwaysAnswers = name.equals("image");
            if (n[0] == 0 || n[1] == 0 && !alwaysAnswers) {
                wrong++;
                System.out.println(name + " answered " + n[0] + " times, refused " + n[1] + " times");
            }
        }
    }

    private int pick(int n) {
        seed = seed * 6364136223846793005L + 1442695040888963407L;
        return (int) ((seed >>> 33) % n);
    }

    private int range(int low, int high) {
        return low + pick(high - low + 1);
    }

    /** A number of a range, now and then one just outside or far outside. */
    private int near(int low, int high) {
        switch (pick(60)) {
            case 0: return low - 1;
            case 1: return high + 1;
            case 2: return pick(2) == 0 ? Integer.MAX_VALUE : Integer.MIN_VALUE;
            default: return range(low, high);
        }
    }

    private int someCandle() {
        return near(0, 1);
    }

    /** Mostly a THING that is there. */
    private int someThing(int candle) {
        int things = candle == 0 || candle == 1 ? model.now.candles[candle].kinds.size() : 0;
        return things > 0 && pick(8) != 0 ? pick(things) : near(0, 11);
    }

    /** Mostly a THING behind another. */
    private int laterThing(int candle, int early) {
        int things = candle == 0 || candle == 1 ? model.now.candles[candle].kinds.size() : 0;
        return things > early + 1 && early >= 0 && pick(8) != 0 ? range(early + 1, things - 1) : near(0, 11);
    }

    /** Mostly a SHEET that is there. */
    private int someSheet() {
        int sheet = near(0, 3);
        for (int i = 0; i < 4 && pick(8) != 0; i++) {
            if (in4(sheet) && model.sheets[sheet] != null) {
                return sheet;
            }
            sheet = pick(4);
        }
        return sheet;
    }

    private int laneOf(int sheet) {
        return in4(sheet) && pick(10) != 0 ? model.lanes[sheet] : near(0, 2);
    }

    private static boolean in4(int sheet) {
        return sheet >= 0 && sheet < 4;
    }

    private int someOf(int size, int most) {
        return size > 0 && pick(10) != 0 ? pick(size) : near(0, most);
    }

    private void run(long number) throws Exception {
        seed = number * 7919;
        pick(2);
        stone = new DripStone();
        model = new Model();
        calls = new ArrayList<>();
        int before = wrong;
        int style = pick(4);
        for (int i = 0; i < 110 && wrong == before; i++) {
            change(style);
            ask();
            ask();
        }
    }

    private long call(String name, Object... args) throws Exception {
        Object a = real.get(name).invoke(stone, args);
        Object b = modelled.get(name).invoke(model, args);
        long got = ((Number) a).longValue();
        long want = ((Number) b).longValue();
        calls.add(name + Arrays.toString(args) + " = " + want);
        long[] n = seen.computeIfAbsent(name, k -> new long[2]);
        n[isRefusal(name, want) ? 1 : 0]++;
        if (got != want && wrong < 5) {
            wrong++;
            for (String c : calls) {
                System.out.println("  " + c);
            }
            System.out.println("the last call answered " + got);
        }
        return want;
    }

    private static boolean isRefusal(String name, long answer) {
        boolean bothSigns = Arrays.asList("rain", "water", "thing", "leans").contains(name);
        return bothSigns ? answer < -900 : answer < 0;
    }

    // ---- changes

    private void change(int style) throws Exception {
        switch (pick(22)) {
            case 0: case 1: rainSome(); break;
            case 2: call("set", near(0, 1), near(1, pick(2) == 0 ? 5 : 9)); break;
            case 3: typeText(pick(5) == 0 ? brokenText(lawText()) : lawText()); call("law"); break;
            case 4: if (style != 0) call("make", near(0, 1)); break;
            case 5: case 6: case 7: case 8: putOne(); break;
            case 9: if (pick(3) == 0) call("cut", near(0, 1), near(0, 11)); break;
            case 10: call("most", someCandle(), near(1, 4)); break;
            case 11: stretchOne(); break;
            case 12: case 13: case 14: dateOne(); break;
            case 15: call("throwOut", someOf(model.now.dates.size(), 7), pick(2) == 0 ? 0 : near(0, 9)); break;
            case 16: typeText(pick(5) == 0 ? brokenText(claimText()) : claimText()); call("claim"); break;
            case 17: causeOne(); break;
            case 18: if (pick(3) == 0) call("image"); break;
            case 19: if (pick(4) == 0) call("restore"); break;
            case 20: call("type", (long) pick(1 << 30) << 20 | pick(1 << 20), near(1, 8)); break;
            default: sheetSome();
        }
    }

    private void rainSome() throws Exception {
        if (pick(2) == 0) {
            call("rain", near(0, 23), near(0, 2), near(-20, 20));
            return;
        }
        int dry = pick(4);
        for (int year = 0; year < 24; year++) {
            if (pick(3) != 0) {
                call("rain", year, 0, pick(4) < dry ? 0 : range(0, 9));
                call("rain", year, 1, range(-20, 20));
                call("rain", year, 2, range(0, 9));
            }
        }
    }

    private void putOne() throws Exception {
        int kind = pick(10) == 0 ? near(0, 2) : new int[] {0, 0, 0, 1, 2}[pick(5)];
        int weight = kind == 0 || pick(20) == 0 ? near(-50, 50) : 0;
        call("put", near(0, 1), kind, weight);
    }

    private void stretchOne() throws Exception {
        int candle = someCandle();
        int kind = near(0, 2);
        int from = someThing(candle);
        int to = pick(6) == 0 ? from : laterThing(candle, from);
        int n = kind == 0 ? (pick(10) == 0 ? 1 : 0) : kind == 1 ? near(1, 4) : pick(4) == 0 ? near(1, 20) : range(1, 4);
        call("stretch", candle, kind, from, to, n);
    }

    private void dateOne() throws Exception {
        int candle = someCandle();
        int thing = someThing(candle);
        int middle = Math.max(0, Math.min(23, Math.min(thing, 30) + range(-2, 6)));
        int from = Math.max(0, middle - pick(5));
        int to = Math.min(23, middle + pick(5));
        call("date", candle, thing, near(from, from), near(to, to), pick(4) == 0 ? near(0, 1) : 0);
    }

    private void causeOne() throws Exception {
        int low = near(-30, 30);
        call("cause", low, pick(6) == 0 ? near(-30, 30) : (int) Math.min(30, (long) low + pick(20)));
    }

    private void sheetSome() throws Exception {
        int sheet = someSheet();
        int lane = laneOf(sheet);
        switch (pick(5)) {
            case 0: call("sheet", sheet, lane, pick(10) == 0 ? -pick(100) : near(0, 24)); return;
            case 1: if (pick(4) == 0) call("drop", sheet); return;
            case 2: call("item", sheet, lane, near(0, 23), pick(9) == 0 ? pick(1 << 30) - (1 << 29) : near(-20, 23)); return;
            default: fillSheet();
        }
    }

    /** A SHEET that some call can use: small numbers, or YEARS that go up. */
    private void fillSheet() throws Exception {
        int sheet = pick(4);
        int lane = pick(3);
        call("sheet", sheet, lane, 24);
        boolean up = pick(2) == 0;
        int year = pick(3);
        for (int i = 0; i < 24; i++) {
            year = year >= 23 || pick(9) == 0 ? pick(4) : year + pick(3);
            call("item", sheet, lane, i, up ? year : range(0, 9));
        }
    }

    private void typeText(String text) throws Exception {
        for (int at = 0; at < text.length(); ) {
            int n = Math.min(text.length() - at, 1 + pick(8));
            // what stands above the n lowest bytes must not matter
            long w = pick(3) == 0 ? 0x0102030405060708L : 0;
            for (int i = 0; i < n; i++) {
                w = w << 8 | text.charAt(at + i);
            }
            call("type", w, n);
            at += n;
        }
    }

    private String blank() {
        return pick(12) == 0 ? " " : "";
    }

    private String lawText() {
        StringBuilder text = new StringBuilder();
        int clauses = pick(12) == 0 ? 7 : range(1, 4);
        for (int c = 0; c < clauses; c++) {
            text.append(c == 0 ? "" : ";").append(blank());
            int conditions = pick(20) == 0 ? 4 : range(0, 3);
            text.append(conditions == 0 ? "*" : "");
            for (int j = 0; j < conditions; j++) {
                text.append(j == 0 ? "" : "&").append(blank()).append("ahw".charAt(pick(3)));
                text.append(blank()).append("<>=".charAt(pick(3))).append(blank());
                text.append(pick(12) == 0 ? range(90, 110) : pick(10)).append(blank());
            }
            text.append(":").append(blank()).append(range(0, 4)).append(blank());
        }
        return text.toString();
    }

    private String claimText() {
        StringBuilder text = new StringBuilder();
        int atoms = pick(15) == 0 ? 3 : range(1, 2);
        for (int k = 0; k < atoms; k++) {
            text.append(k == 0 ? "" : pick(2) == 0 ? "&" : "|").append(blank()).append(pick(4) == 0 ? "!" : "");
            if (pick(2) == 0) {
                text.append("*");
            } else {
                text.append("w").append(blank()).append(pick(2) == 0 ? "<" : ">").append(blank());
                text.append(pick(3) == 0 ? "-" : "").append(blank()).append(pick(15) == 0 ? 51 : pick(20));
            }
            int first = pick(20);
            int last = Math.min(pick(20) == 0 ? 25 : 23, first + pick(12));
            text.append(blank()).append("@").append(first).append(blank()).append("-").append(blank());
            text.append(last).append("#").append(blank()).append(pick(6) == 0 ? pick(14) : range(1, 3)).append(blank());
        }
        return text.toString();
    }

    private String brokenText(String text) {
        String signs = " ahw<>=&|!*@#-:;0123456789x~";
        StringBuilder b = new StringBuilder(text);
        int at = pick(b.length());
        switch (pick(4)) {
            case 0: b.deleteCharAt(at); break;
            case 1: b.setLength(at); break;
            case 2: b.insert(at, signs.charAt(pick(signs.length()))); break;
            default: b.setCharAt(at, signs.charAt(pick(signs.length())));
        }
        return b.toString();
    }

    // ---- questions

    private void ask() throws Exception {
        int candle = someCandle();
        int thing = someThing(candle);
        int what = near(0, 1);
        int sheet = someSheet();
        int lane = laneOf(sheet);
        switch (pick(10)) {
            case 0: call("wet", near(0, 23)); break;
            case 1: call("water", near(0, 23)); break;
            case 2: call("grows", near(0, 23)); break;
            case 3: call("rains", near(0, 2), sheet, lane, near(0, 6), near(1, pick(2) == 0 ? 5 : 24)); break;
            case 4: call("learn", sheet, lane, near(0, 16), near(1, pick(2) == 0 ? 2 : 8), near(0, 9)); break;
            case 5: call("truth", candle, thing); break;
            case 6: call("thing", candle, thing, what); break;
            case 7: call("count", near(0, 7)); break;
            case 8: call("judge", candle, sheet, lane, near(0, 12)); break;
            default: call("says", candle, thing, laterThing(candle, thing), near(0, 2));
        }
        if (model.canWrite(candle)) {
            askWays(candle, thing, what);
        }
    }

    private void askWays(int candle, int thing, int what) throws Exception {
        boolean both = model.canWrite(0) && model.canWrite(1);
        int claim = someOf(model.now.claims.size(), 3);
        switch (pick(16)) {
            case 0: call("ways", candle); break;
            case 1: call("ends", candle, thing, what); break;
            case 2: call("odds", candle, thing, near(0, 23), what); break;
            case 3: call("span", candle, thing, laterThing(candle, thing), what); break;
            case 4: call("apart", candle, thing, laterThing(candle, thing), near(0, pick(2) == 0 ? 5 : 23), what); break;
            case 5: call("next", candle, what); break;
            case 6: case 7: if (model.canWriteFree(candle)) call("mustGo", candle); break;
            case 8: case 9: askLeans(what); break;
            case 10: if (both) call("oneYear", someThing(0), someThing(1), what); break;
            case 11: if (both) call("tie", near(0, 2)); break;
            case 12: case 13: call("chance", claim, candle, what); break;
            case 14: call("holds", claim, candle); break;
            default: call("looked", claim, candle, near(0, 9), near(9, pick(2) == 0 ? 30 : 1000), what);
        }
    }

    private void askLeans(int what) throws Exception {
        int date = someOf(model.now.dates.size(), 7);
        if (date < 0 || date >= model.now.dates.size()) {
            call("leans", date, 0, what);
        } else if (model.canWriteFree(model.now.dates.get(date)[0])) {
            call("leans", date, someThing(model.now.dates.get(date)[0]), what);
        }
    }
}

/** All of the document in its plainest form: every WAY is written down and looked at. */
final class Model {
    static final int BAD = -1, NOT = -2, FULL = -3, NONE = -4, NULL = -11, CAST = -12, INDEX = -13, SIZE = -14;

    static final class Candle implements Cloneable {
        List<Integer> kinds = new ArrayList<>();
        List<Integer> weights = new ArrayList<>();
        List<Integer> truth = new ArrayList<>();
        boolean made;
        int most = 2;
        List<int[]> stretches = new ArrayList<>();

        Candle copy() {
            Candle c = new Candle();
            c.kinds.addAll(kinds);
            c.weights.addAll(weights);
            c.truth.addAll(truth);
            c.made = made;
            c.most = most;
            c.stretches.addAll(stretches);
            return c;
        }

        List<Integer> places() {
            List<Integer> places = new ArrayList<>();
            for (int i = 0; i < kinds.size(); i++) {
                if (kinds.get(i) != 2) {
                    places.add(i);
                }
            }
            return places;
        }
    }

    static final class All {
        int[][] rain = new int[24][3];
        int keeps = 1;
        int seen = 3;
        String law = "";
        Candle[] candles = {new Candle(), new Candle()};
        List<int[]> dates = new ArrayList<>();
        List<String> claims = new ArrayList<>();
        List<int[]> causes = new ArrayList<>();

        All copy() {
            All a = new All();
            for (int y = 0; y < 24; y++) {
                a.rain[y] = rain[y].clone();
            }
            a.keeps = keeps;
            a.seen = seen;
            a.law = law;
            a.candles = new Candle[] {candles[0].copy(), candles[1].copy()};
            for (int[] d : dates) {
                a.dates.add(d.clone());
            }
            a.claims.addAll(claims);
            a.causes.addAll(causes);
            return a;
        }
    }

    All now = new All();
    All kept;
    String tape = "";
    int[][] sheets = new int[4][];
    int[] lanes = new int[4];

    // ---- 1

    static boolean in(int v, int low, int high) {
        return low <= v && v <= high;
    }

    static boolean rainFits(int what, int v) {
        return what == 1 ? in(v, -20, 20) : in(v, 0, 9);
    }

    int rain(int year, int what, int v) {
        if (!in(year, 0, 23) || !in(what, 0, 2) || !rainFits(what, v)) return -1001;
        int was = now.rain[year][what];
        now.rain[year][what] = v;
        return was;
    }

    /** The machine's own finds about a row, in their order. */
    int row(int sheet, int lane, int from, int n) {
        if (sheets[sheet] == null) return NULL;
        if (lanes[sheet] != lane) return CAST;
        for (long i = from; i < (long) from + n; i++) {
            if (i < 0 || i >= sheets[sheet].length) return INDEX;
        }
        return 0;
    }

    int rains(int what, int sheet, int lane, int from, int n) {
        if (!in(what, 0, 2) || !in(sheet, 0, 3) || !in(lane, 0, 2) || !in(n, 1, 24)) return BAD;
        if (row(sheet, lane, from, n) != 0) return row(sheet, lane, from, n);
        for (int i = 0; i < n; i++) {
            if (!rainFits(what, sheets[sheet][from + i])) return NOT;
        }
        for (int i = 0; i < n; i++) {
            rain(i, what, sheets[sheet][from + i]);
        }
        return n;
    }

    int set(int what, int v) {
        if (what == 0 && in(v, 1, 5)) {
            int was = now.keeps;
            now.keeps = v;
            return was;
        }
        if (what == 1 && in(v, 1, 9)) {
            int was = now.seen;
            now.seen = v;
            return was;
        }
        return BAD;
    }

    int wetBy(int year, int k) {
        int sum = 0;
        for (int y = 0; y <= year; y++) {
            if (year - y < k) sum += now.rain[y][0];
        }
        return sum;
    }

    Integer waterBy(int year, int k) {
        int sum = 0;
        for (int y = 0; y <= year; y++) {
            if (year - y < k) sum += now.rain[y][0] * now.rain[y][1];
        }
        int wet = wetBy(year, k);
        if (wet == 0) return null;
        int size = Math.abs(sum) / wet;
        return sum < 0 ? -size : size;
    }

    int wet(int year) {
        return in(year, 0, 23) ? wetBy(year, now.keeps) : BAD;
    }

    int water(int year) {
        if (!in(year, 0, 23)) return -1001;
        Integer water = waterBy(year, now.keeps);
        return water == null ? -1004 : water;
    }

    int type(long w, int n) {
        if (!in(n, 1, 8)) return BAD;
        String more = "";
        for (int i = 0; i < n; i++) {
            int b = (int) (w & 0xff);
            if (!in(b, 32, 126)) return BAD;
            more = (char) b + more;
            w >>= 8;
        }
        if (tape.length() + n > 80) return FULL;
        tape += more;
        return tape.length();
    }

    /** Words of a TEXT: each a sign or a number, with the place where it starts. */
    static List<String> words(String text, List<Integer> starts) {
        List<String> words = new ArrayList<>();
        for (int i = 0; i < text.length(); ) {
            int end = i + 1;
            if (Character.isDigit(text.charAt(i))) {
                while (end < text.length() && Character.isDigit(text.charAt(end))) end++;
            }
            if (text.charAt(i) != ' ') {
                words.add(text.substring(i, end));
                starts.add(i);
            }
            i = end;
        }
        words.add("");
        starts.add(text.length());
        return words;
    }

    static boolean isNumber(String word) {
        return !word.isEmpty() && Character.isDigit(word.charAt(0));
    }

    static boolean numberIn(String word, int low, int high) {
        BigInteger n = new BigInteger(word);
        return n.compareTo(BigInteger.valueOf(low)) >= 0 && n.compareTo(BigInteger.valueOf(high)) <= 0;
    }

    /** -1 if it is a LAW, else the place of its FAULT. */
    static int lawFault(String text) {
        List<Integer> at = new ArrayList<>();
        List<String> w = words(text, at);
        int i = 0;
        for (int clause = 1; ; clause++) {
            if (w.get(i).equals("*")) {
                i++;
            } else {
                for (int condition = 1; ; condition++) {
                    if (!List.of("a", "h", "w").contains(w.get(i))) return at.get(i);
                    i++;
                    if (!List.of("<", ">", "=").contains(w.get(i))) return at.get(i);
                    i++;
                    if (!isNumber(w.get(i)) || !numberIn(w.get(i), 0, 99)) return at.get(i);
                    i++;
                    if (condition == 3 || !w.get(i).equals("&")) break;
                    i++;
                }
            }
            if (!w.get(i).equals(":")) return at.get(i);
            i++;
            if (!isNumber(w.get(i)) || w.get(i).charAt(0) > '4') return at.get(i);
            if (w.get(i).length() > 1) return at.get(i) + 1;
            i++;
            if (w.get(i).isEmpty()) return -1;
            if (clause == 6 || !w.get(i).equals(";")) return at.get(i);
            i++;
        }
    }

    int law() {
        String text = tape;
        tape = "";
        int fault = lawFault(text);
        if (fault >= 0) return -20 - fault;
        now.law = text.replace(" ", "");
        return now.law.split(";").length;
    }

    int growth(int year) {
        if (now.law.isEmpty() || wetBy(year, now.keeps) == 0) return 0;
        for (String clause : now.law.split(";")) {
            String test = clause.split(":")[0];
            boolean so = true;
            for (String c : test.equals("*") ? new String[0] : test.split("&")) {
                int n = Integer.parseInt(c.substring(2));
                char s = c.charAt(0);
                int v = s == 'a' ? now.rain[year][0] : s == 'h' ? now.rain[year][2] : wetBy(year, now.keeps);
                char o = c.charAt(1);
                so &= o == '<' ? v < n : o == '>' ? v > n : v == n;
            }
            if (so) return Integer.parseInt(clause.split(":")[1]);
        }
        return 0;
    }

    int grows(int year) {
        return in(year, 0, 23) ? growth(year) : BAD;
    }

    int learn(int sheet, int lane, int from, int n, int e) {
        if (!in(sheet, 0, 3) || !in(lane, 0, 2) || !in(n, 1, 8) || !in(e, 0, 9)) return BAD;
        if (row(sheet, lane, from, 2 * n) != 0) return row(sheet, lane, from, 2 * n);
        int[] s = sheets[sheet];
        for (int i = 0; i < n; i++) {
            if (!in(s[from + 2 * i], 0, 23)) return NOT;
        }
        int bits = 0;
        for (int k = 1; k <= 5; k++) {
            boolean fits = true;
            for (int i = 0; i < n; i++) {
                Integer water = waterBy(s[from + 2 * i], k);
                fits &= water != null && Math.abs((long) water - s[from + 2 * i + 1]) <= e;
            }
            if (fits) bits += 1 << (k - 1);
        }
        return bits == 0 ? NONE : bits;
    }

    // ---- 2

    boolean isCandle(int c) {
        return c == 0 || c == 1;
    }

    boolean isThing(int c, int t) {
        return isCandle(c) && t >= 0 && t < now.candles[c].kinds.size();
    }

    int kind(int c, int t) {
        return now.candles[c].kinds.get(t);
    }

    int make(int candle) {
        if (!isCandle(candle)) return BAD;
        if (now.law.isEmpty()) return NOT;
        Candle c = new Candle();
        c.most = now.candles[candle].most;
        c.made = true;
        int last = -100;
        for (int y = 0; y < 24; y++) {
            int g = growth(y);
            if (g == 0) continue;
            if (last >= 0 && y - last > now.seen) {
                c.kinds.add(2);
                c.weights.add(0);
                c.truth.add(-1);
            }
            for (int i = 0; i < g; i++) {
                c.kinds.add(0);
                c.weights.add(waterBy(y, now.keeps) - now.rain[y][2]);
                c.truth.add(y);
            }
            last = y;
        }
        while (c.kinds.size() > 12) {
            c.kinds.remove(12);
            c.weights.remove(12);
            c.truth.remove(12);
        }
        now.candles[candle] = c;
        now.dates.removeIf(d -> d[0] == candle);
        return c.kinds.size();
    }

    int truth(int candle, int thing) {
        if (!isThing(candle, thing)) return BAD;
        if (!now.candles[candle].made) return NOT;
        return kind(candle, thing) == 2 ? CAST : now.candles[candle].truth.get(thing);
    }

    int put(int candle, int kind, int weight) {
        if (!isCandle(candle) || !in(kind, 0, 2) || !in(weight, -50, 50) || kind > 0 && weight != 0) return BAD;
        Candle c = now.candles[candle];
        if (c.kinds.size() == 12) return FULL;
        c.made = false;
        c.kinds.add(kind);
        c.weights.add(weight);
        c.truth.add(-1);
        return c.kinds.size() - 1;
    }

    int cut(int candle, int thing) {
        if (!isThing(candle, thing)) return BAD;
        Candle c = now.candles[candle];
        c.made = false;
        while (c.kinds.size() > thing) {
            c.kinds.remove(thing);
            c.weights.remove(thing);
            c.truth.remove(thing);
        }
        c.stretches.removeIf(s -> s[1] >= thing || s[2] >= thing);
        now.dates.removeIf(d -> d[0] == candle && d[1] >= thing);
        return thing;
    }

    int thing(int candle, int thing, int what) {
        if (!isThing(candle, thing) || !in(what, 0, 1)) return -1001;
        if (what == 0) return kind(candle, thing);
        return kind(candle, thing) == 0 ? now.candles[candle].weights.get(thing) : -1012;
    }

    int most(int candle, int n) {
        if (!isCandle(candle) || !in(n, 1, 4)) return BAD;
        int was = now.candles[candle].most;
        now.candles[candle].most = n;
        return was;
    }

    int stretch(int candle, int kind, int from, int to, int n) {
        if (!isThing(candle, from) || !isThing(candle, to) || to < from || !in(kind, 0, 2)) return BAD;
        if (kind == 0 && n != 0 || kind == 1 && !in(n, 1, 4) || kind == 2 && !in(n, 1, 20)) return BAD;
        if (kind(candle, from) == 2 || kind(candle, to) == 2) return CAST;
        if (now.candles[candle].stretches.size() == 6) return FULL;
        now.candles[candle].stretches.add(new int[] {kind, from, to, n});
        return now.candles[candle].stretches.size();
    }

    int date(int candle, int thing, int from, int to, int dirty) {
        if (!isThing(candle, thing) || !in(from, 0, 23) || !in(to, from, 23) || !in(dirty, 0, 1)) return BAD;
        if (kind(candle, thing) == 2) return CAST;
        if (now.dates.size() == 8) return FULL;
        now.dates.add(new int[] {candle, thing, from, to, dirty, 0});
        return now.dates.size() - 1;
    }

    int throwOut(int date, int why) {
        if (!in(date, 0, now.dates.size() - 1) || !in(why, 0, 9)) return BAD;
        int was = now.dates.get(date)[5];
        now.dates.get(date)[5] = why;
        return was;
    }

    int count(int what) {
        int thrown = 0;
        for (int[] d : now.dates) {
            thrown += d[5] > 0 ? 1 : 0;
        }
        int[] all = {now.dates.size(), thrown, now.claims.size(), now.causes.size(),
            now.candles[0].kinds.size(), now.candles[1].kinds.size(),
            now.candles[0].places().size(), now.candles[1].places().size()};
        return in(what, 0, 7) ? all[what] : BAD;
    }

    // ---- 3

    int binding(int candle) {
        int bits = 0;
        for (int i = 0; i < now.dates.size(); i++) {
            if (now.dates.get(i)[0] == candle && now.dates.get(i)[5] == 0) bits |= 1 << i;
        }
        return bits;
    }

    /** Whether the YEARS of the first so many PLACES are as a WAY must have them. */
    boolean fits(Candle c, List<Integer> places, int[] years, int n, int bound) {
        int last = n - 1;
        if (!in(years[last], 0, 23)) return false;
        for (int i = 0; i < now.dates.size(); i++) {
            int[] d = now.dates.get(i);
            if ((bound >> i & 1) == 1 && d[1] == places.get(last)) {
                if (years[last] < d[2] || d[4] == 0 && years[last] > d[3]) return false;
            }
        }
        if (last == 0) return true;
        int year = years[last];
        int ahead = years[last - 1];
        if (year < ahead) return false;
        int same = 0;
        int sameAhead = 0;
        for (int i = 0; i <= last; i++) {
            same += years[i] == year ? 1 : 0;
            sameAhead += years[i] == ahead ? 1 : 0;
        }
        if (same > c.most) return false;
        if (places.get(last) - places.get(last - 1) > 1 && year - ahead < 2) return false;
        for (int[] s : c.stretches) {
            if (places.get(last - 1) < s[1] || places.get(last) > s[2]) continue;
            if (s[0] < 2 && year - ahead > 1) return false;
            if (s[0] == 1 && year != ahead && sameAhead < s[3]) return false;
            if (s[0] == 2 && year - ahead < s[3]) return false;
        }
        return true;
    }

    void write(Candle c, List<Integer> places, int[] years, int n, int bound, List<int[]> to) {
        if (to.size() > ModelTests.WRITTEN) return;
        if (n == places.size()) {
            to.add(years.clone());
            return;
        }
        for (int y = n == 0 ? 0 : years[n - 1]; y < 24; y++) {
            years[n] = y;
            if (fits(c, places, years, n + 1, bound)) {
                write(c, places, years, n + 1, bound, to);
            }
        }
    }

    private final Map<String, List<int[]>> known = new HashMap<>();

    /** All that a WAY depends on, as a text. */
    private String keyOf(int candle, int bound) {
        Candle c = now.candles[candle];
        StringBuilder key = new StringBuilder().append(c.kinds).append(c.most);
        for (int[] s : c.stretches) {
            key.append(Arrays.toString(s));
        }
        for (int i = 0; i < now.dates.size(); i++) {
            if ((bound >> i & 1) == 1) {
                key.append("d").append(Arrays.toString(Arrays.copyOf(now.dates.get(i), 5)));
            }
        }
        return key.toString();
    }

    List<int[]> written(int candle, int bound) {
        return known.computeIfAbsent(keyOf(candle, bound), k -> writtenAnew(candle, bound));
    }

    private List<int[]> writtenAnew(int candle, int bound) {
        Candle c = now.candles[candle];
        List<int[]> to = new ArrayList<>();
        List<Integer> places = c.places();
        if (!places.isEmpty()) write(c, places, new int[12], 0, bound, to);
        return to;
    }

    List<int[]> written(int candle) {
        return written(candle, binding(candle));
    }

    boolean canWrite(int candle) {
        return !isCandle(candle) || written(candle).size() <= ModelTests.WRITTEN;
    }

    boolean canWriteFree(int candle) {
        return !isCandle(candle) || written(candle, 0).size() <= ModelTests.WRITTEN;
    }

    int place(int candle, int thing) {
        return now.candles[candle].places().indexOf(thing);
    }

    static long part(long above, long below, int what) {
        BigInteger d = BigInteger.valueOf(above).gcd(BigInteger.valueOf(below));
        return (what == 0 ? above : below) / d.longValueExact();
    }

    long ways(int candle) {
        if (!isCandle(candle)) return BAD;
        if (now.candles[candle].places().isEmpty()) return NOT;
        return written(candle).size();
    }

    static int end(List<int[]> ways, int place, int what) {
        int end = ways.get(0)[place];
        for (int[] w : ways) {
            end = what == 0 ? Math.min(end, w[place]) : Math.max(end, w[place]);
        }
        return end;
    }

    int ends(int candle, int thing, int what) {
        if (!isThing(candle, thing) || !in(what, 0, 1)) return BAD;
        if (kind(candle, thing) == 2) return CAST;
        List<int[]> ways = written(candle);
        return ways.isEmpty() ? NONE : end(ways, place(candle, thing), what);
    }

    long odds(int candle, int thing, int year, int what) {
        if (!isThing(candle, thing) || !in(year, 0, 23) || !in(what, 0, 1)) return BAD;
        if (kind(candle, thing) == 2) return CAST;
        List<int[]> ways = written(candle);
        int place = place(candle, thing);
        long above = ways.stream().filter(w -> w[place] == year).count();
        return ways.isEmpty() ? NONE : part(above, ways.size(), what);
    }

    int span(int candle, int early, int late, int what) {
        if (!isThing(candle, early) || !isThing(candle, late) || late <= early || !in(what, 0, 1)) return BAD;
        if (kind(candle, early) == 2 || kind(candle, late) == 2) return CAST;
        List<int[]> ways = written(candle);
        int a = place(candle, early);
        int b = place(candle, late);
        if (ways.isEmpty()) return NONE;
        return what == 0 ? ways.stream().mapToInt(w -> w[b] - w[a]).min().getAsInt()
            : ways.stream().mapToInt(w -> w[b] - w[a]).max().getAsInt();
    }

    long apart(int candle, int early, int late, int n, int what) {
        if (!isThing(candle, early) || !isThing(candle, late) || late <= early) return BAD;
        if (!in(n, 0, 23) || !in(what, 0, 1)) return BAD;
        if (kind(candle, early) == 2 || kind(candle, late) == 2) return CAST;
        List<int[]> ways = written(candle);
        int a = place(candle, early);
        int b = place(candle, late);
        long above = ways.stream().filter(w -> w[b] - w[a] >= n).count();
        return ways.isEmpty() ? NONE : part(above, ways.size(), what);
    }

    long next(int candle, int what) {
        if (!isCandle(candle) || !in(what, 0, 1)) return BAD;
        List<Integer> places = now.candles[candle].places();
        if (places.isEmpty()) return NOT;
        List<int[]> ways = written(candle);
        if (ways.isEmpty()) return NONE;
        long least = Long.MAX_VALUE;
        int best = -1;
        for (int p = 0; p < places.size(); p++) {
            long[] left = new long[24];
            for (int[] w : ways) {
                left[w[p]]++;
            }
            long worst = Arrays.stream(left).max().getAsLong();
            if (worst < least) {
                least = worst;
                best = places.get(p);
            }
        }
        return what == 0 ? best : least;
    }

    int mustGo(int candle) {
        if (!isCandle(candle)) return BAD;
        if (now.candles[candle].places().isEmpty()) return NOT;
        int binding = binding(candle);
        int best = NONE;
        for (int bits = 255; bits >= 0; bits--) {
            if ((bits | binding) != binding) continue;
            if (written(candle, binding - bits).isEmpty()) continue;
            if (best == NONE || Integer.bitCount(bits) <= Integer.bitCount(best)) best = bits;
        }
        return best;
    }

    int leans(int date, int thing, int what) {
        if (!in(date, 0, now.dates.size() - 1) || !in(what, 0, 1)) return -1001;
        int candle = now.dates.get(date)[0];
        if (!isThing(candle, thing)) return -1001;
        if (kind(candle, thing) == 2) return -1012;
        List<int[]> with = written(candle, binding(candle) | 1 << date);
        List<int[]> without = written(candle, binding(candle) & ~(1 << date));
        if (with.isEmpty() || without.isEmpty()) return -1004;
        int place = place(candle, thing);
        return end(without, place, what) - end(with, place, what);
    }

    int judge(int candle, int sheet, int lane, int from) {
        if (!isCandle(candle) || !in(sheet, 0, 3) || !in(lane, 0, 2)) return BAD;
        List<Integer> places = now.candles[candle].places();
        if (places.isEmpty()) return NOT;
        if (row(sheet, lane, from, places.size()) != 0) return row(sheet, lane, from, places.size());
        int[] years = Arrays.copyOfRange(sheets[sheet], from, from + places.size());
        for (int n = 1; n <= places.size(); n++) {
            if (!fits(now.candles[candle], places, years, n, binding(candle))) return places.get(n - 1);
        }
        return NONE;
    }

    // ---- 4

    long shared(List<int[]> a, int p, List<int[]> b, int q) {
        long[] n = new long[24];
        for (int[] w : b) {
            n[w[q]]++;
        }
        return a.stream().mapToLong(w -> n[w[p]]).sum();
    }

    long oneYear(int thing0, int thing1, int what) {
        if (!isThing(0, thing0) || !isThing(1, thing1) || !in(what, 0, 1)) return BAD;
        if (kind(0, thing0) == 2 || kind(1, thing1) == 2) return CAST;
        List<int[]> a = written(0);
        List<int[]> b = written(1);
        if (a.isEmpty() || b.isEmpty()) return NONE;
        return part(shared(a, place(0, thing0), b, place(1, thing1)), (long) a.size() * b.size(), what);
    }

    long tie(int what) {
        if (!in(what, 0, 2)) return BAD;
        List<Integer> places0 = now.candles[0].places();
        List<Integer> places1 = now.candles[1].places();
        if (places0.isEmpty() || places1.isEmpty()) return NOT;
        List<int[]> a = written(0);
        List<int[]> b = written(1);
        if (a.isEmpty() || b.isEmpty()) return NONE;
        long[] best = {0, 0, -1};
        for (int p = 0; p < places0.size(); p++) {
            for (int q = 0; q < places1.size(); q++) {
                long n = shared(a, p, b, q);
                if (n > best[2]) best = new long[] {places0.get(p), places1.get(q), n};
            }
        }
        return best[what];
    }

    static int claimFault(String text) {
        List<Integer> at = new ArrayList<>();
        List<String> w = words(text, at);
        int i = 0;
        for (int atom = 1; ; atom++) {
            if (w.get(i).equals("!")) i++;
            if (w.get(i).equals("*")) {
                i++;
            } else {
                if (!w.get(i).equals("w")) return at.get(i);
                i++;
                if (!w.get(i).equals("<") && !w.get(i).equals(">")) return at.get(i);
                i++;
                int first = at.get(i);
                if (w.get(i).equals("-")) i++;
                if (!isNumber(w.get(i))) return at.get(i);
                if (!numberIn(w.get(i), 0, 50)) return first;
                i++;
            }
            if (!w.get(i).equals("@")) return at.get(i);
            i++;
            if (!isNumber(w.get(i)) || !numberIn(w.get(i), 0, 23)) return at.get(i);
            int low = Integer.parseInt(w.get(i));
            i++;
            if (!w.get(i).equals("-")) return at.get(i);
            i++;
            if (!isNumber(w.get(i)) || !numberIn(w.get(i), low, 23)) return at.get(i);
            i++;
            if (!w.get(i).equals("#")) return at.get(i);
            i++;
            if (!isNumber(w.get(i)) || !numberIn(w.get(i), 1, 12)) return at.get(i);
            i++;
            if (w.get(i).isEmpty()) return -1;
            if (atom == 2 || !w.get(i).equals("&") && !w.get(i).equals("|")) return at.get(i);
            i++;
        }
    }

    int claim() {
        int fault = claimFault(tape);
        if (fault >= 0) {
            tape = "";
            return -20 - fault;
        }
        if (now.claims.size() == 4) return FULL;
        now.claims.add(tape.replace(" ", ""));
        tape = "";
        return now.claims.size() - 1;
    }

    /** Whether a CLAIM, so many YEARS later, is so by YEARS told for THINGS. */
    boolean isSo(String claim, Candle c, List<Integer> things, int[] years, int shift) {
        if (claim.contains("&")) {
            String[] two = claim.split("&");
            return isSo(two[0], c, things, years, shift) && isSo(two[1], c, things, years, shift);
        }
        if (claim.contains("|")) {
            String[] two = claim.split("\\|");
            return isSo(two[0], c, things, years, shift) || isSo(two[1], c, things, years, shift);
        }
        if (claim.startsWith("!")) return !isSo(claim.substring(1), c, things, years, shift);
        String what = claim.substring(0, claim.indexOf('@'));
        String[] span = claim.substring(claim.indexOf('@') + 1, claim.indexOf('#')).split("-");
        int n = 0;
        for (int i = 0; i < things.size(); i++) {
            int t = things.get(i);
            boolean such = what.equals("*");
            if (!such && c.kinds.get(t) == 0) {
                int bound = Integer.parseInt(what.substring(2));
                such = what.charAt(1) == '<' ? c.weights.get(t) < bound : c.weights.get(t) > bound;
            }
            int year = years[i] - shift;
            if (such && Integer.parseInt(span[0]) <= year && year <= Integer.parseInt(span[1])) n++;
        }
        return n >= Integer.parseInt(claim.substring(claim.indexOf('#') + 1));
    }

    long so(int claim, int candle, List<int[]> ways, int shift) {
        Candle c = now.candles[candle];
        List<Integer> places = c.places();
        return ways.stream().filter(w -> isSo(now.claims.get(claim), c, places, w, shift)).count();
    }

    long chance(int claim, int candle, int what) {
        if (!in(claim, 0, now.claims.size() - 1) || !isCandle(candle) || !in(what, 0, 1)) return BAD;
        if (now.candles[candle].places().isEmpty()) return NOT;
        List<int[]> ways = written(candle);
        return ways.isEmpty() ? NONE : part(so(claim, candle, ways, 0), ways.size(), what);
    }

    int holds(int claim, int candle) {
        if (!in(claim, 0, now.claims.size() - 1) || !isCandle(candle)) return BAD;
        Candle c = now.candles[candle];
        if (!c.made) return NOT;
        List<Integer> places = c.places();
        int[] years = places.stream().mapToInt(t -> c.truth.get(t)).toArray();
        return isSo(now.claims.get(claim), c, places, years, 0) ? 1 : 0;
    }

    int looked(int claim, int candle, int p, int q, int what) {
        if (!in(claim, 0, now.claims.size() - 1) || !isCandle(candle) || !in(what, 0, 1)) return BAD;
        if (!in(q, 1, 1000) || p < 0 || p > q) return BAD;
        if (now.candles[candle].places().isEmpty()) return NOT;
        List<int[]> ways = written(candle);
        if (ways.isEmpty()) return NONE;
        int latest = 0;
        for (String atom : now.claims.get(claim).split("[&|]")) {
            latest = Math.max(latest, Integer.parseInt(atom.substring(atom.lastIndexOf('-') + 1, atom.indexOf('#'))));
        }
        int shifts = 0;
        int found = 0;
        for (int shift = 0; latest + shift < 24; shift++) {
            shifts++;
            if (so(claim, candle, ways, shift) * q >= (long) p * ways.size()) found++;
        }
        return what == 0 ? shifts : found;
    }

    int cause(int low, int high) {
        if (!in(low, -30, 30) || !in(high, -30, 30) || low > high) return BAD;
        if (now.causes.size() == 5) return FULL;
        now.causes.add(new int[] {low, high});
        return now.causes.size() - 1;
    }

    int says(int candle, int early, int late, int what) {
        if (!isThing(candle, early) || !isThing(candle, late) || late <= early || !in(what, 0, 2)) return BAD;
        if (kind(candle, early) != 0 || kind(candle, late) != 0) return CAST;
        int change = now.candles[candle].weights.get(late) - now.candles[candle].weights.get(early);
        List<Integer> sets = new ArrayList<>();
        for (int bits = 1; bits < 1 << now.causes.size(); bits++) {
            int low = 0;
            int high = 0;
            for (int i = 0; i < now.causes.size(); i++) {
                low += (bits >> i & 1) * now.causes.get(i)[0];
                high += (bits >> i & 1) * now.causes.get(i)[1];
            }
            if (low <= change && change <= high) sets.add(bits);
        }
        if (what == 0) return sets.size();
        if (sets.isEmpty()) return NONE;
        if (what == 2) return sets.stream().reduce(31, (a, b) -> a & b);
        return sets.stream().min((a, b) -> Integer.compare(Integer.bitCount(a) * 32 + a, Integer.bitCount(b) * 32 + b)).get();
    }

    int image() {
        kept = now.copy();
        return 1;
    }

    int restore() {
        if (kept == null) return NONE;
        now = kept.copy();
        return 1;
    }

    // ---- 5

    int sheet(int sheet, int lane, int n) {
        if (!in(sheet, 0, 3) || !in(lane, 0, 2) || n > 24) return BAD;
        if (n < 0) return SIZE;
        sheets[sheet] = new int[n];
        lanes[sheet] = lane;
        return n;
    }

    int drop(int sheet) {
        if (!in(sheet, 0, 3)) return BAD;
        if (sheets[sheet] == null) return NULL;
        int n = sheets[sheet].length;
        sheets[sheet] = null;
        return n;
    }

    int item(int sheet, int lane, int i, int v) {
        if (!in(sheet, 0, 3) || !in(lane, 0, 2)) return BAD;
        if (row(sheet, lane, i, 1) != 0) return row(sheet, lane, i, 1);
        sheets[sheet][i] = lane == 0 ? (byte) v : lane == 1 ? (short) v : v;
        return 1;
    }
}
