import java.util.ArrayList;
import java.util.List;

/**
 * CLAIMS of all forms (promises 33 and 35) against WAYS that are written down one by one: short
 * CANDLES in a few YEARS with every MOST, so that ATOMS come to be just met and just not met.
 */
public final class EveryClaim {
    private static final int NO_WEIGHT = 99;
    private static final int[][] CANDLES = {{-2, 0, 3}, {-2, 0, NO_WEIGHT, 1}, {4, 4, 4, 4, 4}, {-50, -1, 0, 1, 50},
        {NO_WEIGHT, -1, NO_WEIGHT, 1, 0, 2}};
    /** The PLACE ahead of which a GAP is put; 0: there is none. */
    private static final int[] GAPS = {0, 2, 0, 3, 1};
    private static final int[] FIRST_YEARS = {0, 3, 19};
    private static final int YEARS = 24, WIDTH = 5, CLAIMS = 4, ROUNDS = 40;

    private static long dice = 20261118;
    private static int asked, wrong;

    private record Atom(boolean not, int sign, int weight, int from, int to, int n) {
        String text() {
            String test = sign == '*' ? "*" : "w" + (char) sign + weight;
            return (not ? "!" : "") + test + "@" + from + "-" + to + "#" + n;
        }

        boolean isSo(int[] weights, int[] way, int shift) {
            int seen = 0;
            for (int p = 0; p < way.length; p++) {
                boolean stone = weights[p] != NO_WEIGHT;
                boolean such = sign == '*' || stone && (sign == '<' ? weights[p] < weight : weights[p] > weight);
                seen += such && way[p] >= from + shift && way[p] <= to + shift ? 1 : 0;
            }
            return seen >= n != not;
        }
    }

    /** One ATOM (join 0) or two. */
    private record Told(Atom a, int join, Atom b) {
        String text() {
            return join == 0 ? a.text() : a.text() + (char) join + b.text();
        }

        boolean isSo(int[] weights, int[] way, int shift) {
            boolean soA = a.isSo(weights, way, shift);
            boolean soB = b.isSo(weights, way, shift);
            return join == 0 ? soA : join == '&' ? soA && soB : soA || soB;
        }

        int shifts() {
            return YEARS - (join == 0 ? a.to : Math.max(a.to, b.to));
        }
    }

    public static void main(String[] args) {
        for (int c = 0; c < CANDLES.length; c++) {
            for (int first : FIRST_YEARS) {
                for (int most = 1; most <= 4; most++) {
                    for (int round = 0; round < ROUNDS; round++) {
                        askClaims(CANDLES[c], GAPS[c], first, most);
                    }
                }
            }
        }
        System.out.println(asked + " answers asked, " + wrong + " wrong");
        if (wrong > 0) {
            System.exit(1);
        }
    }

    private static int roll(int low, int high) {
        dice = dice * 6364136223846793005L + 1442695040888963407L;
        return low + (int) ((dice >>> 33) % (high - low + 1));
    }

    private static void askClaims(int[] weights, int gap, int first, int most) {
        DripStone x = new DripStone();
        x.most(0, most);
        for (int p = 0; p < weights.length; p++) {
            if (gap > 0 && p == gap) {
                x.put(0, 2, 0);
            }
            int thing = x.put(0, weights[p] == NO_WEIGHT ? 1 : 0, weights[p] == NO_WEIGHT ? 0 : weights[p]);
            x.date(0, thing, first, first + WIDTH - 1, 0);
        }
        List<int[]> ways = new ArrayList<>();
        write(ways, new int[weights.length], 0, gap, first, most);
        due("ways", x.ways(0), ways.size());
        for (int k = 0; k < CLAIMS; k++) {
            Told told = new Told(atom(first, weights.length), new int[] {0, '&', '|'}[roll(0, 2)], atom(first, weights.length));
            type(x, told.text());
            due(told.text(), x.claim(), k);
            askClaim(x, k, told, weights, ways);
        }
    }

    /** An ATOM about the YEARS in which the CANDLE lies, or some ahead of them. */
    private static Atom atom(int first, int places) {
        int from = roll(Math.max(0, first - 4), first + WIDTH - 1);
        int to = roll(from, Math.min(YEARS - 1, first + WIDTH));
        int sign = new int[] {'*', '<', '>'}[roll(0, 2)];
        return new Atom(roll(0, 1) == 1, sign, roll(-3, 4), from, to, roll(1, Math.min(12, places + 1)));
    }

    private static void write(List<int[]> ways, int[] way, int p, int gap, int first, int most) {
        if (p == way.length) {
            ways.add(way.clone());
            return;
        }
        for (int y = first; y < first + WIDTH; y++) {
            way[p] = y;
            boolean fits = p == 0 || y >= way[p - 1] + (gap > 0 && p == gap ? 2 : 0);
            if (fits && (p < most || way[p - most] != y)) {
                write(ways, way, p + 1, gap, first, most);
            }
        }
    }

    private static void askClaim(DripStone x, int k, Told told, int[] weights, List<int[]> ways) {
        if (ways.isEmpty()) {
            due(told.text(), x.chance(k, 0, 0), DripStone.NONE);
            due(told.text(), x.looked(k, 0, 1, 2, 1), DripStone.NONE);
            return;
        }
        int[] so = new int[told.shifts()];
        for (int shift = 0; shift < so.length; shift++) {
            for (int[] way : ways) {
                so[shift] += told.isSo(weights, way, shift) ? 1 : 0;
            }
        }
        int divisor = divisor(so[0], ways.size());
        due(told.text() + " above", x.chance(k, 0, 0), so[0] / divisor);
        due(told.text() + " below", x.chance(k, 0, 1), ways.size() / divisor);
        due(told.text() + " shifts", x.looked(k, 0, 1, 2, 0), so.length);
        int q = roll(1, 6);
        int p = roll(0, q);
        int found = 0;
        for (int s : so) {
            found += (long) s * q >= (long) ways.size() * p ? 1 : 0;
        }
        due(told.text() + " looked for by " + p + " / " + q, x.looked(k, 0, p, q, 1), found);
    }

    private static int divisor(int a, int b) {
        return b == 0 ? a : divisor(b, a % b);
    }

    private static void type(DripStone x, String text) {
        for (int i = 0; i < text.length(); i++) {
            x.type(text.charAt(i), 1);
        }
    }

    private static void due(String what, long got, long want) {
        asked++;
        if (got != want) {
            wrong++;
            System.out.println(what + ": answered " + got + ", due is " + want);
        }
    }
}
