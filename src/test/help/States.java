/** Objects of which much can be asked, to see that a refused call changes nothing. */
enum States {
    /** A new object. */
    FRESH,
    /** Something of everything, with an IMAGE that is of other days. */
    RICH,
    /** All that has a limit is at its limit. */
    FULL,
    /** CANDLE 0 has no WAY, CANDLE 1 no PLACE. */
    STUCK;

    private long[] known;

    DripStone make() {
        DripStone x = new DripStone();
        switch (this) {
            case RICH: enrich(x); break;
            case FULL: fill(x); break;
            case STUCK: stick(x); break;
            default: break;
        }
        return x;
    }

    /** The answers of this state without any call behind it. */
    long[] known() {
        if (known == null) {
            known = answers(make());
        }
        return known;
    }

    /** Candle 0 is MADE: STONES of 0, 1, 2, a GAP, 6, 6, 7, a GAP, 11, 12. */
    private static void enrich(DripStone x) {
        Setup.fill(x, 0, 0, 1, 2, 3, 4);
        Setup.fill(x, 1, 1, -5, 6, 7);
        x.sheet(3, 0, 0);
        int[][] rain = {{0, 0, 1}, {0, 1, 5}, {1, 0, 2}, {1, 1, -3}, {1, 2, 1}, {6, 0, 3}, {6, 1, 20}, {6, 2, 9},
            {11, 0, 1}, {11, 1, -20}};
        for (int[] r : rain) {
            x.rain(r[0], r[1], r[2]);
        }
        x.set(0, 2);
        x.set(1, 2);
        Setup.law(x, "a>2:2;*:1");
        x.make(0);
        x.stretch(0, 0, 0, 2, 0);
        x.stretch(0, 1, 4, 6, 2);
        int[][] put = {{0, 5}, {2, 0}, {1, 0}, {0, -7}, {0, 9}};
        for (int[] p : put) {
            x.put(1, p[0], p[1]);
        }
        x.stretch(1, 2, 2, 3, 3);
        x.most(1, 3);
        x.date(0, 4, 5, 8, 0);
        x.date(1, 0, 2, 6, 0);
        x.date(0, 9, 10, 14, 1);
        x.date(1, 2, 9, 9, 0);
        x.date(0, 0, 0, 3, 0);
        x.throwOut(3, 7);
        Setup.claim(x, "*@0-5#2");
        Setup.claim(x, "w<0@3-9#1|!w>4@0-2#1");
        x.cause(-5, 3);
        x.cause(2, 10);
        x.image();
        x.rain(3, 0, 4);
        x.set(1, 4);
        x.most(0, 3);
        x.put(1, 1, 0);
        x.date(1, 5, 20, 22, 0);
        Setup.type(x, "*:3");
    }

    private static void fill(DripStone x) {
        for (int y = 0; y < 4; y++) {
            x.rain(y, 0, 9);
            x.rain(y, 1, 20 - y);
        }
        Setup.law(x, "a>9:1;a>9:2;h>9:3;w<1:1;w=99:0;a=9:4");
        x.make(0);
        x.most(0, 4);
        Setup.things(x, 1, "sdsdsdsdgsgs");
        for (int i = 0; i < 6; i++) {
            x.stretch(0, 0, i, i + 1, 0);
            x.stretch(1, 1, 4 + i % 3, 5 + i % 3, 1);
        }
        for (int d = 0; d < 8; d++) {
            x.date(d % 2, d, d, 9 + d, d / 6);
        }
        x.throwOut(6, 2);
        String[] claims = {"*@0-0#1", "w>18@0-9#4", "*@5-9#3", "!w<0@9-23#1"};
        for (int i = 0; i < 4; i++) {
            Setup.claim(x, claims[i]);
            x.cause(-i, i + 2);
            x.sheet(i, i % 3, 24);
            x.item(i, i % 3, i, 4 + i);
        }
        x.cause(0, 0);
        x.image();
        x.most(1, 3);
        for (int i = 0; i < 9; i++) {
            x.type(0x2020202020202020L, 8);
        }
        Setup.type(x, "     *:2");
    }

    private static void stick(DripStone x) {
        Setup.things(x, 0, "sgs");
        x.date(0, 0, 7, 9, 0);
        x.date(0, 2, 3, 8, 0);
        x.date(0, 2, 5, 6, 0);
        Setup.things(x, 1, "g");
        Setup.claim(x, "*@0-9#1");
        x.sheet(0, 0, 3);
    }

    /** All that can be seen of an object, by as many calls as leave it under 512 in all. */
    static long[] answers(DripStone x) {
        Answers a = new Answers();
        for (int what = 0; what < 8; what++) {
            a.add(x.count(what));
        }
        for (int y = 0; y < 24; y++) {
            a.add(x.grows(y));
        }
        for (int candle = 0; candle < 2; candle++) {
            askCandle(a, x, candle);
        }
        for (int d = 0; d < 8; d++) {
            a.add(x.leans(d, 0, 0));
        }
        a.add(x.tie(2));
        a.add(x.oneYear(0, 0, 0));
        // from here on questions change the object, but that of every state in the same way
        for (int i = 0; i < 72; i++) {
            a.add(x.rain(i / 3, i % 3, 0));
        }
        askSheets(a, x);
        askLimits(a, x);
        askImage(a, x);
        return a.all();
    }

    private static void askCandle(Answers a, DripStone x, int candle) {
        for (int t = 0; t < 12; t++) {
            a.add(x.thing(candle, t, 0));
            a.add(x.thing(candle, t, 1));
            a.add(x.truth(candle, t));
            a.add(x.ends(candle, t, 0));
            a.add(x.ends(candle, t, 1));
        }
        a.add(x.ways(candle));
        a.add(x.next(candle, 0));
        a.add(x.mustGo(candle));
        for (int claim = 0; claim < 4; claim++) {
            a.add(x.chance(claim, candle, 0));
            a.add(x.holds(claim, candle));
            a.add(x.looked(claim, candle, 1, 2, 0));
        }
        a.add(x.says(candle, 0, 4, 0));
        a.add(x.says(candle, 0, 4, 1));
    }

    private static void askSheets(Answers a, DripStone x) {
        for (int s = 0; s < 4; s++) {
            for (int i = 0; i < 4; i++) {
                a.add(x.rains(1, s, s % 3, i, 1));
                a.add(x.rain(0, 1, 0));
            }
            a.add(x.drop(s));
        }
    }

    private static void askLimits(Answers a, DripStone x) {
        for (int d = 0; d < 8; d++) {
            a.add(x.throwOut(d, 0));
        }
        for (int i = 0; i < 2; i++) {
            a.add(x.set(i, 1));
            a.add(x.most(i, 1));
            a.add(x.stretch(i, 0, 0, 0, 0));
        }
        a.add(x.cause(0, 0));
        a.add(x.type(' ', 1));
        a.add(x.law());
        x.rain(5, 0, 1);
        a.add(x.grows(5));
    }

    private static void askImage(Answers a, DripStone x) {
        a.add(x.restore());
        for (int what = 0; what < 8; what++) {
            a.add(x.count(what));
        }
        a.add(x.ways(0));
        a.add(x.ways(1));
        a.add(x.truth(0, 4));
        a.add(x.rain(6, 0, 0));
        a.add(x.set(1, 1));
        a.add(x.most(0, 1));
    }

    private static final class Answers {
        private final long[] row = new long[400];
        private int size;

        void add(long answer) {
            row[size++] = answer;
        }

        long[] all() {
            return java.util.Arrays.copyOf(row, size);
        }
    }
}
