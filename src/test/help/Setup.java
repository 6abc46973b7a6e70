/** Short ways to bring an object to where a test begins, for the tests that extend this. */
abstract class Setup {
    static final int BAD = DripStone.BAD, NOT = DripStone.NOT, FULL = DripStone.FULL, NONE = DripStone.NONE;
    static final int NULL = DripStone.NULL, CAST = DripStone.CAST, INDEX = DripStone.INDEX, SIZE = DripStone.SIZE;
    static final int MIN = Integer.MIN_VALUE, MAX = Integer.MAX_VALUE;
    static Book book;

    /** What is due by the sentence that was named last. */
    static void due(String what, long got, long want) {
        book.due(what, got, want);
    }

    /** Types a text, eight bytes by a call: how many bytes THE TAPE has. */
    static int type(DripStone x, String text) {
        int typed = 0;
        for (int at = 0; at < text.length(); at += 8) {
            int n = Math.min(8, text.length() - at);
            long w = 0;
            for (int i = 0; i < n; i++) {
                w = w << 8 | text.charAt(at + i);
            }
            typed = x.type(w, n);
        }
        return typed;
    }

    static int law(DripStone x, String text) {
        type(x, text);
        return x.law();
    }

    static int claim(DripStone x, String text) {
        type(x, text);
        return x.claim();
    }

    static int lawOf(String text) {
        return law(new DripStone(), text);
    }

    static int claimOf(String text) {
        return claim(new DripStone(), text);
    }

    /** Puts THINGS behind a CANDLE: s a STONE of WEIGHT 0, d DIRT, g a GAP. */
    static void things(DripStone x, int candle, String kinds) {
        for (int i = 0; i < kinds.length(); i++) {
            x.put(candle, "sdg".indexOf(kinds.charAt(i)), 0);
        }
    }

    /** A new object with THINGS on CANDLE 0. */
    static DripStone candle(String kinds) {
        DripStone x = new DripStone();
        things(x, 0, kinds);
        return x;
    }

    /** A new object with STONES on CANDLE 0. */
    static DripStone stones(int... weights) {
        DripStone x = new DripStone();
        for (int w : weights) {
            x.put(0, 0, w);
        }
        return x;
    }

    static void fill(DripStone x, int sheet, int lane, int... items) {
        x.sheet(sheet, lane, items.length);
        for (int i = 0; i < items.length; i++) {
            x.item(sheet, lane, i, items[i]);
        }
    }

    /** Judges told YEARS of CANDLE 0. */
    static int judge(DripStone x, int... years) {
        fill(x, 0, 2, years);
        return x.judge(0, 0, 2, 0);
    }

    /** AMOUNTS of the YEARS from 0 on. */
    static void amounts(DripStone x, int... amounts) {
        for (int y = 0; y < amounts.length; y++) {
            x.rain(y, 0, amounts[y]);
        }
    }

    /** GROWTH of YEAR 0 with this AMOUNT and HEAT by a LAW. */
    static int growth(String law, int amount, int heat) {
        DripStone x = new DripStone();
        x.rain(0, 0, amount);
        x.rain(0, 2, heat);
        law(x, law);
        return x.grows(0);
    }
}
