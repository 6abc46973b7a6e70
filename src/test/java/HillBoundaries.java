/** Every sentence of the promises 1 to 10: a new object, rain, the hill, texts, the drip. */
public final class HillBoundaries extends Setup {
    public static void main(String[] args) throws Exception {
        book = new Book("Promise 1:", "Promise 11:");
        newObject();
        rain();
        rains();
        rainsRefused();
        set();
        wetAndWater();
        type();
        law();
        grows();
        learn();
        learnRefused();
        book.close();
    }

    private static void newObject() {
        book.promise(1);
        book.sentence("No rain, no law, no CANDLES.");
        DripStone x = new DripStone();
        for (int y = 0; y < 24; y++) {
            due("no WET", x.wet(y), 0);
            due("no WATER", x.water(y), -1004);
            due("no GROWTH", x.grows(y), 0);
        }
        for (int what = 0; what < 8; what++) {
            due("none of " + what, x.count(what), 0);
        }
        due("no LAW", x.make(0) + x.make(1), 2 * NOT);
        due("no WAYS", x.ways(0) + x.ways(1), 2 * NOT);
        due("no IMAGE", x.restore(), NONE);
        due("an empty TAPE", x.type('*', 1), 1);
        DripStone other = new DripStone();
        other.rain(0, 0, 5);
        other.put(0, 0, 0);
        other.sheet(0, 0, 1);
        due("an object of its own", x.wet(0) + x.count(4), 0);
        due("with SHEETS of its own", x.drop(0), NULL);
    }

    private static void rain() {
        book.promise(2);
        book.sentence("AMOUNT (0), WEIGHT (1), HEAT (2) of a YEAR:");
        book.range("what", 0, 2, v -> new DripStone().rain(0, v, 0), -1001);
        DripStone x = new DripStone();
        x.set(0, 1);
        x.rain(0, 0, 3);
        x.rain(0, 1, 4);
        x.rain(0, 2, 5);
        due("AMOUNT", x.wet(0), 3);
        due("WEIGHT", x.water(0), 4);
        law(x, "h=5:2");
        due("HEAT", x.grows(0), 2);
        due("of that YEAR alone", x.wet(1), 0);
        book.sentence("what it was.");
        due("the AMOUNT that was", x.rain(0, 0, 0), 3);
        due("and that which is then", x.rain(0, 0, 9), 0);
        due("a WEIGHT below nought that was", x.rain(0, 1, -20) * 100 + x.rain(0, 1, 20), 380);
        due("the HEAT that was", x.rain(0, 2, 5), 5);
        due("the first YEAR does not share with the last", x.rain(23, 0, 1), 0);
        book.sentence("BAD less 1000 (-1001).");
        book.range("year", 0, 23, v -> new DripStone().rain(v, 2, 9), -1001);
        book.range("AMOUNT", 0, 9, v -> new DripStone().rain(5, 0, v), -1001);
        book.range("WEIGHT", -20, 20, v -> new DripStone().rain(5, 1, v), -1001);
        book.range("HEAT", 0, 9, v -> new DripStone().rain(5, 2, v), -1001);
        book.refusedAlways("year -1", y -> y.rain(-1, 0, 5), -1001);
        book.refusedAlways("WEIGHT 21", y -> y.rain(0, 1, 21), -1001);
        book.refusedAlways("HEAT -1", y -> y.rain(0, 2, -1), -1001);
    }

    /** An object with a SHEET 0 of ints. */
    private static DripStone sheeted(int... items) {
        DripStone x = new DripStone();
        fill(x, 0, 2, items);
        return x;
    }

    private static void rains() {
        book.promise(3);
        book.sentence("n YEARS (1 .. 24) from YEAR 0 on have AMOUNTS (0), WEIGHTS (1), HEATS (2) from a SHEET,");
        book.range("n", 1, 24, v -> sheeted(new int[24]).rains(0, 0, 2, 0, v), BAD);
        book.range("what", 0, 2, v -> sheeted(1).rains(v, 0, 2, 0, 1), BAD);
        book.range("sheet", 0, 3, v -> sheeted(1).rains(0, v, 2, 0, 1), BAD);
        for (int what = 0; what < 3; what++) {
            DripStone x = sheeted(4, 5, 6);
            x.rain(2, what, 9);
            due("two", x.rains(what, 0, 2, 0, 2), 2);
            due("YEAR 0", x.rain(0, what, 0), 4);
            due("YEAR 1", x.rain(1, what, 0), 5);
            due("YEAR 2 is as it was", x.rain(2, what, 0), 9);
            due("the others are as they were", x.rain(0, (what + 1) % 3, 0) + x.rain(0, (what + 2) % 3, 0), 0);
        }
        int[] all = new int[24];
        for (int y = 0; y < 24; y++) {
            all[y] = y % 9 + 1;
        }
        DripStone x = sheeted(all);
        due("all YEARS", x.rains(0, 0, 2, 0, 24), 24);
        for (int y = 0; y < 24; y++) {
            due("YEAR " + y, x.rain(y, 0, 0), all[y]);
        }
        book.sentence("taken as a row of a LANE, from one on: n.");
        x = sheeted(7, 8, 9);
        due("from the first on", x.rains(0, 0, 2, 0, 3), 3);
        due("from the last on", x.rains(0, 0, 2, 2, 1), 1);
        due("that is YEAR 0", x.rain(0, 0, 0), 9);
        due("YEAR 1 as before", x.rain(1, 0, 0), 8);
        for (int lane = 0; lane < 3; lane++) {
            x = new DripStone();
            fill(x, lane, lane, -3);
            due("LANE " + lane, x.rains(1, lane, lane, 0, 1), 1);
            due("its item", x.rain(0, 1, 0), -3);
        }
    }

    private static void rainsRefused() {
        book.sentence("BAD; NULL; CAST; INDEX; NOT: one is not as told.");
        book.range("lane", 0, 2, v -> sheeted(1).rains(0, 0, v, 0, 1), BAD);
        due("nothing", sheeted(1).rains(0, 1, 2, 0, 1), NULL);
        due("shorts", sheeted(1).rains(0, 0, 1, 0, 1), CAST);
        book.range("from", 0, 2, v -> sheeted(1, 2, 3).rains(0, 0, 2, v, 1), INDEX);
        due("two from the last but one", sheeted(1, 2, 3).rains(0, 0, 2, 1, 2), 2);
        due("two from the last", sheeted(1, 2, 3).rains(0, 0, 2, 2, 2), INDEX);
        due("three of three", sheeted(1, 2, 3).rains(0, 0, 2, 0, 3), 3);
        due("four of three", sheeted(1, 2, 3).rains(0, 0, 2, 0, 4), INDEX);
        due("one of none", sheeted().rains(0, 0, 2, 0, 1), INDEX);
        due("from so far that it wraps round", sheeted(1, 2, 3).rains(0, 0, 2, MAX, 24), INDEX);
        for (int what = 0; what < 3; what++) {
            int low = what == 1 ? -20 : 0;
            int high = what == 1 ? 20 : 9;
            due("least and most", sheeted(low, high).rains(what, 0, 2, 0, 2), 2);
            due("the first too small", sheeted(low - 1, high).rains(what, 0, 2, 0, 2), NOT);
            due("the last too large", sheeted(low, high + 1).rains(what, 0, 2, 0, 2), NOT);
            due("too large behind those taken", sheeted(low, high + 1).rains(what, 0, 2, 0, 1), 1);
            due("too small ahead of those taken", sheeted(low - 1, high).rains(what, 0, 2, 1, 1), 1);
        }
        due("BAD and NULL", sheeted(1).rains(3, 1, 2, 0, 1), BAD);
        due("BAD and CAST", sheeted(1).rains(0, 0, 1, 0, 0), BAD);
        due("BAD and INDEX", sheeted(1).rains(0, 0, 2, 1, 25), BAD);
        due("BAD and NOT", sheeted(99).rains(-1, 0, 2, 0, 1), BAD);
        due("NULL and INDEX", sheeted(1).rains(0, 1, 2, -1, 1), NULL);
        due("CAST and INDEX", sheeted(1).rains(0, 0, 0, 1, 1), CAST);
        due("CAST and NOT", sheeted(99).rains(0, 0, 0, 0, 1), CAST);
        due("INDEX and NOT", sheeted(99).rains(0, 0, 2, 0, 2), INDEX);
        book.refused("INDEX", States.RICH, x -> x.rains(0, 0, 0, 1, 4), INDEX);
        book.refused("NOT", States.RICH, x -> x.rains(0, 1, 1, 0, 2), NOT);
        book.refused("NULL", States.RICH, x -> x.rains(0, 2, 0, 0, 2), NULL);
        DripStone x = sheeted(5, 99);
        x.rain(0, 0, 1);
        due("the last is not as told", x.rains(0, 0, 2, 0, 2), NOT);
        due("then the first has not been taken", x.rain(0, 0, 0), 1);
    }

    private static void set() {
        book.promise(4);
        book.sentence("THE HILL KEEPS K (0), SEEN (1):");
        book.range("what", 0, 1, v -> new DripStone().set(v, 1), BAD);
        DripStone x = new DripStone();
        amounts(x, 4, 0);
        x.set(0, 2);
        due("K", x.wet(1), 4);
        x.set(1, 7);
        due("SEEN is not K", x.wet(2), 0);
        book.sentence("what it was.");
        due("K", x.set(0, 5), 2);
        due("SEEN", x.set(1, 9), 7);
        due("K again", x.set(0, 5), 5);
        book.sentence("BAD.");
        book.range("K", 1, 5, v -> new DripStone().set(0, v), BAD);
        book.range("SEEN", 1, 9, v -> new DripStone().set(1, v), BAD);
        due("K that SEEN could be", x.set(0, 6), BAD);
        book.refusedAlways("K 0", y -> y.set(0, 0), BAD);
        book.refusedAlways("SEEN 0", y -> y.set(1, 0), BAD);
        book.refusedAlways("what 2", y -> y.set(2, 2), BAD);
    }

    private static void wetAndWater() {
        book.promise(5);
        book.sentence("WET of a YEAR.");
        DripStone x = new DripStone();
        x.rain(0, 0, 9);
        x.rain(23, 0, 8);
        due("the first", x.wet(0), 9);
        due("the last", x.wet(23), 8);
        due("a dry one", x.wet(22), 0);
        x.set(0, 5);
        due("K is more than there are ahead", x.wet(0), 9);
        due("the last that the first reaches", x.wet(4), 9);
        due("the first that it does not", x.wet(5), 0);
        book.sentence("BAD.");
        book.range("year", 0, 23, v -> new DripStone().wet(v), BAD);
        book.refusedAlways("wet of 24", y -> y.wet(24), BAD);

        book.promise(6);
        book.sentence("WATER of a YEAR.");
        x = new DripStone();
        x.rain(0, 0, 9);
        x.rain(0, 1, 20);
        x.rain(23, 0, 1);
        x.rain(23, 1, -20);
        due("the first", x.water(0), 20);
        due("the last", x.water(23), -20);
        x.set(0, 5);
        due("kept", x.water(4), 20);
        book.sentence("BAD less 1000; NONE less that (-1004).");
        due("-1", x.water(-1), -1001);
        due("24", x.water(24), -1001);
        due("far below", x.water(MIN), -1001);
        due("far above", x.water(MAX), -1001);
        due("none", x.water(5), -1004);
        due("nought is not none", waterOfNought(), 0);
        book.refusedAlways("water of 24", y -> y.water(24), -1001);
        book.refused("water that is none", States.RICH, y -> y.water(15), -1004);
    }

    private static int waterOfNought() {
        DripStone x = new DripStone();
        x.rain(5, 0, 1);
        return x.water(5);
    }

    private static void type() {
        book.promise(7);
        book.sentence("The n lowest bytes (1 .. 8) of w, of these the highest first, come behind THE TAPE: how many it has.");
        long eight = 0x2a3a3120_20202020L;
        book.range("n", 1, 8, v -> new DripStone().type(eight, v), BAD);
        DripStone x = new DripStone();
        due("the lowest alone", x.type(0x01020304050600L + '*', 1), 1);
        due("two more", x.type(0x3a33, 2), 3);
        due("in this order: *:3", x.law(), 1);
        amounts(x, 1);
        due("it is that LAW", x.grows(0), 3);
        due("all eight", x.type(eight, 8), 8);
        due("they are a LAW", x.law(), 1);
        due("*:1", x.grows(0), 1);
        book.sentence("BAD: n, a byte not 32 .. 126;");
        due("byte 31", new DripStone().type(31, 1), BAD);
        due("byte 32", new DripStone().type(32, 1), 1);
        due("byte 126", new DripStone().type(126, 1), 1);
        due("byte 127", new DripStone().type(127, 1), BAD);
        due("byte 0", new DripStone().type(0, 1), BAD);
        due("byte 128", new DripStone().type(128, 1), BAD);
        due("byte 255", new DripStone().type(255, 1), BAD);
        due("the highest of eight", new DripStone().type(0x1f20202020202020L, 8), BAD);
        due("the highest of eight, signed", new DripStone().type(0xff20202020202020L, 8), BAD);
        due("the highest of eight is not asked for", new DripStone().type(0x1f20202020202020L, 7), 7);
        due("the lowest of eight", new DripStone().type(0x202020202020207fL, 8), BAD);
        due("one in the middle", new DripStone().type(0x2020207f202020L, 7), BAD);
        book.sentence("FULL: 80.");
        x = new DripStone();
        for (int i = 1; i <= 9; i++) {
            due("type", x.type(eight, 8), 8 * i);
        }
        due("79", x.type(eight, 7), 79);
        due("two more do not fit", x.type(0x2020, 2), FULL);
        due("one more fits", x.type(0x20, 1), 80);
        due("none fits any more", x.type(0x20, 1), FULL);
        due("BAD ahead of FULL: n", x.type(0x20, 0), BAD);
        due("BAD ahead of FULL: a byte", x.type(0x1f, 1), BAD);
        x.law();
        due("behind a LAW it is empty", x.type(0x20, 1), 1);
        book.refused("FULL", States.FULL, y -> y.type('x', 1), FULL);
        book.refusedAlways("a byte 31 behind good ones", y -> y.type(0x41421fL, 3), BAD);
        book.refusedAlways("n 0", y -> y.type('x', 0), BAD);
    }

    private static void law() {
        book.promise(8);
        book.sentence("THE TAPE, which is empty then, is THE LAW: how many CLAUSES.");
        DripStone x = new DripStone();
        amounts(x, 1);
        due("one", law(x, "*:1"), 1);
        due("THE TAPE is empty", x.type('*', 1), 1);
        due("six, behind what stands there", law(x, ":1;*:2;*:3;*:4;*:1;*:2"), 6);
        due("THE TAPE is empty", law(x, "a=1:4;*:2"), 2);
        due("the LAW is the new one", x.grows(0), 4);
        due("a LAW with fewer CLAUSES", law(x, "a=2:3"), 1);
        due("the old ones are gone", x.grows(0), 0);
        law(x, "a=1&a=2:3");
        law(x, "a=1:3");
        due("old CONDITIONS are gone", x.grows(0), 3);
        law(x, "*:2");
        due("all of them", x.grows(0), 2);
        book.sentence("A FAULT (THE LAW stays).");
        due("an empty TAPE", x.law(), -20);
        due("it stays", x.grows(0), 2);
        due("a FAULT behind a good CLAUSE", law(x, "*:4;x"), -24);
        due("it stays", x.grows(0), 2);
        due("THE TAPE is empty", x.type('x', 1), 1);
        due("a FAULT", x.law(), -20);
        due("THE TAPE is empty again", law(x, "*:3"), 1);
        due("a LAW again", x.grows(0), 3);
        DripStone none = new DripStone();
        due("a FAULT where there is no LAW", law(none, "*:4;"), -24);
        due("there is none still", none.make(0), NOT);
    }

    private static void grows() {
        book.promise(9);
        book.sentence("GROWTH of a YEAR.");
        DripStone x = new DripStone();
        x.rain(0, 0, 1);
        x.rain(23, 0, 2);
        law(x, "a=1:4;a=2:1");
        due("the first", x.grows(0), 4);
        due("the last", x.grows(23), 1);
        due("a dry one", x.grows(22), 0);
        book.sentence("BAD.");
        book.range("year", 0, 23, v -> new DripStone().grows(v), BAD);
        book.refusedAlways("grows of -1", y -> y.grows(-1), BAD);
    }

    /** YEAR 3 has WATER 10, YEAR 4 by K 0, 10, 10, .. and YEAR 2 none. */
    private static DripStone hill(int... buckets) {
        DripStone x = new DripStone();
        x.rain(3, 0, 1);
        x.rain(3, 1, 10);
        x.rain(8, 0, 1);
        x.rain(8, 1, -20);
        fill(x, 0, 2, buckets);
        return x;
    }

    private static int learnt(int e, int... buckets) {
        return hill(buckets).learn(0, 2, 0, buckets.length / 2, e);
    }

    private static void learn() {
        book.promise(10);
        book.sentence("Which K (bits 0 .. 4 for 1 .. 5) fit");
        due("all", learnt(0, 3, 10), 31);
        due("from 2 on", learnt(0, 4, 10), 30);
        due("from 3 on", learnt(0, 5, 10), 28);
        due("from 4 on", learnt(0, 6, 10), 24);
        due("5 alone", learnt(0, 7, 10), 16);
        due("all of YEAR 8", learnt(0, 8, -20), 31);
        DripStone x = hill(4, 10);
        x.set(0, 4);
        due("K itself does not matter", x.learn(0, 2, 0, 1, 0), 30);
        due("nor does it change", x.set(0, 4), 4);
        book.sentence("n buckets (1 .. 8): YEAR and WEIGHT each,");
        book.range("n", 1, 8, v -> hill(3, 10, 3, 10, 3, 10, 3, 10, 3, 10, 3, 10, 3, 10, 3, 10).learn(0, 2, 0, v, 0), BAD);
        due("each must fit", learnt(0, 3, 10, 3, 10, 3, 10, 3, 10, 3, 10, 3, 10, 3, 10, 6, 10), 24);
        due("the first must fit, too", learnt(0, 6, 10, 3, 10), 24);
        due("one behind n is not asked", hill(3, 10, 6, 10).learn(0, 2, 0, 1, 0), 31);
        book.sentence("items of a SHEET, taken as a row of a LANE, from one on:");
        due("from 1 on", hill(99, 3, 10).learn(0, 2, 1, 1, 0), 31);
        due("two from 2 on", hill(99, 99, 3, 10, 4, 10).learn(0, 2, 2, 2, 0), 30);
        for (int lane = 0; lane < 3; lane++) {
            x = hill();
            fill(x, 3, lane, 8, -20);
            due("LANE " + lane, x.learn(3, lane, 0, 1, 0), 31);
        }
        book.sentence("WATER by K is no farther than e (0 .. 9) from each WEIGHT.");
        book.range("e", 0, 9, v -> hill(3, 10).learn(0, 2, 0, 1, v), BAD);
        int[][] far = {{10, 0, 31}, {11, 0, NONE}, {9, 0, NONE}, {11, 1, 31}, {9, 1, 31}, {12, 1, NONE}, {8, 1, NONE},
            {19, 9, 31}, {1, 9, 31}, {20, 9, NONE}, {0, 9, NONE}, {MAX, 9, NONE}, {MIN, 9, NONE}};
        for (int[] f : far) {
            due("WEIGHT " + f[0] + " by " + f[1], learnt(f[1], 3, f[0]), f[2]);
        }
        due("-29 from -20", learnt(9, 8, -29), 31);
        due("-30 from -20", learnt(9, 8, -30), NONE);
        due("-11 from -20", learnt(9, 8, -11), 31);
        due("no WATER fits no WEIGHT", learnt(9, 2, 0), NONE);
        due("no WATER is not nought", learnt(9, 4, 1), 30);
        for (int weight : new int[] {-1013, -1004, -1001, -1000, -4}) {
            due("no WATER is not " + weight, learnt(9, 2, weight), NONE);
        }
    }

    private static void learnRefused() {
        book.sentence("BAD; NULL; CAST; INDEX; NOT: a YEAR is none; NONE: none fits.");
        book.range("sheet", 0, 3, v -> hill(3, 10).learn(v, 2, 0, 1, 0), BAD);
        book.range("lane", 0, 2, v -> hill(3, 10).learn(0, v, 0, 1, 0), BAD);
        due("nothing", hill(3, 10).learn(1, 2, 0, 1, 0), NULL);
        due("bytes", hill(3, 10).learn(0, 0, 0, 1, 0), CAST);
        book.range("from", 0, 1, v -> hill(3, 3, 10).learn(0, 2, v, 1, 9), INDEX);
        due("the WEIGHT of the last bucket is missing", hill(3, 10, 3).learn(0, 2, 0, 2, 0), INDEX);
        due("the last bucket just fits", hill(3, 10, 3, 10).learn(0, 2, 0, 2, 0), 31);
        due("of none", hill().learn(0, 2, 0, 1, 0), INDEX);
        due("so far that it wraps round", hill(3, 10).learn(0, 2, MAX, 8, 0), INDEX);
        book.range("YEAR", 0, 23, v -> learnt(0, v, 10), NOT);
        due("the YEAR of the last bucket", learnt(0, 3, 10, 24, 10), NOT);
        due("the YEAR of a bucket behind n", hill(3, 10, 24, 10).learn(0, 2, 0, 1, 0), 31);
        due("a WEIGHT of 24 is fine", learnt(9, 3, 24), NONE);
        due("BAD and NULL", hill().learn(1, 2, 0, 0, 0), BAD);
        due("BAD and CAST", hill(3, 10).learn(0, 1, 0, 1, 10), BAD);
        due("BAD and INDEX", hill(3, 10).learn(0, 2, 5, 9, 0), BAD);
        due("BAD and NOT", hill(24, 10).learn(0, 2, 0, 1, -1), BAD);
        due("NULL and INDEX", hill().learn(1, 2, -1, 1, 0), NULL);
        due("CAST and INDEX", hill(3).learn(0, 1, 0, 1, 0), CAST);
        due("CAST and NOT", hill(24, 10).learn(0, 1, 0, 1, 0), CAST);
        due("INDEX and NOT", hill(24, 10).learn(0, 2, 0, 2, 0), INDEX);
        due("NOT and NONE", learnt(0, 3, 11, 24, 0), NOT);
        due("NONE", learnt(0, 3, 10, 3, 11), NONE);
        book.refused("NOT", States.RICH, x -> x.learn(1, 1, 0, 1, 0), NOT);
        book.refused("INDEX", States.RICH, x -> x.learn(1, 1, 2, 1, 0), INDEX);
    }
}
