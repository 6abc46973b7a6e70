/** Every sentence of the promises 30 to 42: two candles, claims, causes, images, sheets. */
public final class ClaimBoundaries extends Setup {
    public static void main(String[] args) throws Exception {
        book = new Book("Promise 30:", "Not promised");
        oneYear();
        tie();
        claim();
        chance();
        holds();
        looked();
        cause();
        says();
        image();
        restore();
        sheet();
        drop();
        item();
        book.close();
    }

    /** A STONE on each CANDLE, of these YEARS. */
    private static DripStone pair(int from0, int to0, int from1, int to1) {
        DripStone x = candle("s");
        things(x, 1, "s");
        x.date(0, 0, from0, to0, 0);
        x.date(1, 0, from1, to1, 0);
        return x;
    }

    /** A pair of which one CANDLE has no WAY. */
    private static DripStone stuckPair(int stuck) {
        DripStone x = pair(3, 3, 3, 3);
        x.date(stuck, 0, 4, 4, 0);
        return x;
    }

    private static void oneYear() {
        book.promise(30);
        book.sentence("ODDS of ONE YEAR: above (0), below (1).");
        book.range("what", 0, 1, v -> pair(0, 3, 0, 3).oneYear(0, 0, v), BAD);
        int[][] odds = {{0, 23, 0, 23, 1, 24}, {0, 3, 3, 6, 1, 16}, {0, 3, 4, 6, 0, 1}, {5, 5, 5, 5, 1, 1}, {0, 2, 1, 2, 1, 3},
            {23, 23, 0, 23, 1, 24}, {0, 0, 0, 1, 1, 2}};
        for (int[] o : odds) {
            DripStone x = pair(o[0], o[1], o[2], o[3]);
            due("above", x.oneYear(0, 0, 0), o[4]);
            due("below", x.oneYear(0, 0, 1), o[5]);
        }
        DripStone big = candle("ssssssssssss");
        things(big, 1, "ssssssssssss");
        big.most(0, 4);
        big.most(1, 4);
        due("the most WAYS of both are not too many", big.oneYear(0, 0, 1) > 0 ? 1 : 0, 1);
        due("as likely from the other end, above", big.oneYear(0, 0, 0), big.oneYear(11, 11, 0));
        due("as likely from the other end, below", big.oneYear(0, 0, 1), big.oneYear(11, 11, 1));
        everyPair();
        book.sentence("BAD; CAST; NONE: one of both has no WAY.");
        book.range("thing0", 0, 0, v -> pair(0, 3, 0, 3).oneYear(v, 0, 0), BAD);
        book.range("thing1", 0, 0, v -> pair(0, 3, 0, 3).oneYear(0, v, 0), BAD);
        due("nothing on CANDLE 0", new DripStone().oneYear(0, 0, 0), BAD);
        due("nothing on CANDLE 1", candle("s").oneYear(0, 0, 0), BAD);
        DripStone x = candle("gs");
        things(x, 1, "sg");
        due("thing0 is a GAP", x.oneYear(0, 0, 0), CAST);
        due("thing1 is a GAP", x.oneYear(1, 1, 0), CAST);
        due("none is", x.oneYear(1, 0, 0), 1);
        due("BAD and CAST", x.oneYear(0, 0, 2), BAD);
        x = candle("sss");
        things(x, 1, "s");
        due("THING 2 of CANDLE 0", x.oneYear(2, 0, 0) > 0 ? 1 : 0, 1);
        due("no THING 3 of CANDLE 0", x.oneYear(3, 0, 0), BAD);
        due("no THING 1 of CANDLE 1", x.oneYear(2, 1, 0), BAD);
        things(x, 1, "sss");
        due("THING 3 of CANDLE 1", x.oneYear(0, 3, 0) > 0 ? 1 : 0, 1);
        due("still no THING 3 of CANDLE 0", x.oneYear(3, 3, 0), BAD);
        x = candle("gs");
        things(x, 1, "sg");
        due("CANDLE 0 has no WAY", stuckPair(0).oneYear(0, 0, 0), NONE);
        due("CANDLE 1 has no WAY", stuckPair(1).oneYear(0, 0, 1), NONE);
        due("BAD and NONE", stuckPair(0).oneYear(1, 0, 0), BAD);
        x.date(0, 1, 4, 4, 0);
        x.date(0, 1, 5, 5, 0);
        due("CAST and NONE", x.oneYear(0, 0, 0), CAST);
        due("NONE", x.oneYear(1, 0, 0), NONE);
    }

    /** Each PLACE of one YEAR: 3, 5 and 9 on CANDLE 0, 5 and 9 on CANDLE 1. */
    private static void everyPair() {
        DripStone x = candle("sgsgs");
        things(x, 1, "gdgs");
        int[] years0 = {3, -1, 5, -1, 9};
        int[] years1 = {-1, 5, -1, 9};
        for (int t = 0; t < 5; t += 2) {
            x.date(0, t, years0[t], years0[t], 0);
        }
        for (int t = 1; t < 4; t += 2) {
            x.date(1, t, years1[t], years1[t], 0);
        }
        for (int t = 0; t < 5; t++) {
            for (int u = 0; u < 4; u++) {
                int want = t % 2 == 1 || u % 2 == 0 ? CAST : years0[t] == years1[u] ? 1 : 0;
                due("THINGS " + t + " and " + u, x.oneYear(t, u, 0), want);
            }
        }
    }

    private static void tie() {
        book.promise(31);
        book.sentence("THE TIE: the THING of CANDLE 0 (0), of CANDLE 1 (1), how many WAYS of both together have it so (2).");
        book.range("what", 0, 2, v -> pair(0, 3, 0, 3).tie(v), BAD);
        ties(pair(0, 3, 2, 5), 0, 0, 2);
        ties(pair(0, 3, 4, 5), 0, 0, 0);
        ties(pair(5, 5, 5, 5), 0, 0, 1);
        DripStone x = candle("gs");
        things(x, 1, "ggs");
        ties(x, 1, 2, 24);
        x = candle("gs");
        things(x, 1, "dgs");
        x.date(0, 1, 9, 9, 0);
        x.date(1, 2, 9, 10, 0);
        // CANDLE 1: 8 WAYS with 9, 9 with 10
        ties(x, 1, 2, 8);
        x = candle("sgsgs");
        things(x, 1, "s");
        x.date(1, 0, 20, 20, 0);
        x.date(0, 4, 20, 20, 0);
        ties(x, 4, 0, x.ways(0));
        x = candle("s");
        things(x, 1, "sgsgs");
        x.date(0, 0, 20, 20, 0);
        x.date(1, 4, 20, 20, 0);
        ties(x, 0, 4, x.ways(1));
        x = candle("ssssssssssss");
        things(x, 1, "ssssssssssss");
        x.date(0, 11, 12, 12, 0);
        x.date(1, 11, 12, 12, 0);
        ties(x, 11, 11, x.ways(0) * x.ways(1));
        book.sentence("BAD; NOT: one of both has no PLACE; NONE.");
        due("nothing on both", new DripStone().tie(0), NOT);
        due("nothing on CANDLE 1", candle("s").tie(0), NOT);
        DripStone gap = candle("g");
        things(gap, 1, "s");
        due("a GAP on CANDLE 0", gap.tie(0), NOT);
        gap = candle("s");
        things(gap, 1, "g");
        due("a GAP on CANDLE 1", gap.tie(1), NOT);
        for (int what = 0; what < 3; what++) {
            due("CANDLE 0 has no WAY", stuckPair(0).tie(what), NONE);
            due("CANDLE 1 has no WAY", stuckPair(1).tie(what), NONE);
        }
        due("BAD and NOT", new DripStone().tie(3), BAD);
        due("BAD and NONE", stuckPair(0).tie(-1), BAD);
        due("NOT and NONE", States.STUCK.make().tie(0), NOT);
    }

    private static void ties(DripStone x, int thing0, int thing1, long ways) {
        due("of CANDLE 0", x.tie(0), thing0);
        due("of CANDLE 1", x.tie(1), thing1);
        due("how many", x.tie(2), ways);
    }

    private static void claim() {
        book.promise(32);
        book.sentence("THE TAPE, which is empty then, is a CLAIM: its number.");
        DripStone x = new DripStone();
        due("the first", claim(x, "*@0-0#1"), 0);
        due("THE TAPE is empty", x.type('*', 1), 1);
        due("the second, behind what stands there", claim(x, "@0-0#1"), 1);
        due("as many", x.count(2), 2);
        book.sentence("A FAULT;");
        due("an empty TAPE", x.claim(), -20);
        due("a FAULT behind a good ATOM", claim(x, "*@0-0#1&x"), -28);
        due("THE TAPE is empty", x.type('*', 1), 1);
        due("a FAULT", x.claim(), -21);
        due("no CLAIM of these", x.count(2), 2);
        book.sentence("FULL: 4.");
        due("the third", claim(x, "*@0-0#1"), 2);
        due("the fourth", claim(x, "*@0-0#1|!w<0@1-2#3"), 3);
        due("a fifth", claim(x, "*@1-1#1"), FULL);
        due("as many", x.count(2), 4);
        due("THE TAPE stays by what is refused", x.claim(), FULL);
        due("it has its bytes", x.type('#', 1), 8);
        due("FAULT and FULL", x.claim(), -27);
        due("an empty TAPE then", x.claim(), -20);
        due("as many", x.count(2), 4);
        things(x, 0, "s");
        due("the first is as it was", x.chance(0, 0, 1), 24);
        due("so is the last", x.looked(3, 0, 1, 2, 0), 22);
        claimsApart();
    }

    /** Nothing of a CLAIM is left in one that comes behind it. */
    private static void claimsApart() {
        DripStone x = candle("ss");
        x.date(0, 0, 4, 4, 0);
        x.date(0, 1, 6, 6, 0);
        claim(x, "!*@0-0#1|!*@5-20#3");
        claim(x, "*@4-4#1");
        claim(x, "*@0-0#1&*@9-20#2");
        claim(x, "*@4-7#2");
        due("the second ATOM of one is not the other's, by |", x.looked(1, 0, 1, 1, 1), 2);
        due("nor by &", x.chance(3, 0, 0), 1);
        int[] shifts = {4, 20, 4, 17};
        for (int i = 0; i < 4; i++) {
            due("the shifts of " + i, x.looked(i, 0, 1, 1, 0), shifts[i]);
        }
        x = candle("s");
        x.date(0, 0, 4, 4, 0);
        claim(x, "*@4-4#1|*@5-5#1");
        claim(x, "*@4-4#1&*@5-5#1");
        claim(x, "!*@4-4#1&!*@5-5#1");
        claim(x, "*@4-4#1|*@5-5#1");
        int[] so = {1, 0, 0, 1};
        for (int i = 0; i < 4; i++) {
            due("| and & are of one CLAIM each, " + i, x.chance(i, 0, 0), so[i]);
        }
    }

    private static DripStone claimed(String kinds, String claim) {
        DripStone x = candle(kinds);
        claim(x, claim);
        return x;
    }

    private static void chance() {
        book.promise(33);
        book.sentence("CHANCE of a CLAIM by a CANDLE: above (0), below (1).");
        book.range("what", 0, 1, v -> claimed("s", "*@0-0#1").chance(0, 0, v), BAD);
        String[] claims = {"*@0-0#1", "*@0-0#2", "*@0-23#1", "*@0-23#3", "!*@0-0#1", "*@0-0#1&*@23-23#1", "*@0-0#1|*@23-23#1"};
        int[][] odds = {{2, 25}, {1, 300}, {1, 1}, {0, 1}, {23, 25}, {1, 300}, {47, 300}};
        for (int i = 0; i < claims.length; i++) {
            DripStone x = claimed("ss", claims[i]);
            due(claims[i] + " above", x.chance(0, 0, 0), odds[i][0]);
            due(claims[i] + " below", x.chance(0, 0, 1), odds[i][1]);
        }
        String[] ofThree = {"*@5-9#2", "*@1-1#1", "*@4-4#1&*@6-9#2", "!*@5-23#1"};
        int[][] oddsOfThree = {{45, 368}, {13, 112}, {5, 1288}, {15, 1288}};
        for (int i = 0; i < ofThree.length; i++) {
            DripStone x = claimed("sss", ofThree[i]);
            due(ofThree[i] + " of three, above", x.chance(0, 0, 0), oddsOfThree[i][0]);
            due(ofThree[i] + " of three, below", x.chance(0, 0, 1), oddsOfThree[i][1]);
        }
        due("of one, above", claimed("s", "!*@0-0#1").chance(0, 0, 0), 23);
        due("of one, below", claimed("s", "!*@0-0#1").chance(0, 0, 1), 24);
        due("both ATOMS with the most", claimed("ssssssssssss", "*@0-23#12&*@0-23#12").chance(0, 0, 0), 1);
        due("both with the most, never", claimed("ssssssssssss", "*@0-11#12&*@12-23#12").chance(0, 0, 0), 0);
        due("the first with the most", claimed("ssssssssssss", "*@0-23#12&!*@0-0#12").chance(0, 0, 0), 1);
        due("the second with the most", claimed("ssssssssssss", "!*@0-0#12&*@0-23#12").chance(0, 0, 0), 1);
        DripStone x = claimed("s", "*@0-0#1");
        things(x, 1, "ss");
        due("by the other, above", x.chance(0, 1, 0), 2);
        due("by the other, below", x.chance(0, 1, 1), 25);
        book.sentence("BAD; NOT: no PLACE; NONE: no WAY.");
        due("no CLAIM", candle("s").chance(0, 0, 0), BAD);
        book.range("claim", 0, 0, v -> claimed("s", "*@0-0#1").chance(v, 0, 0), BAD);
        book.range("candle", 0, 1, v -> claimed("s", "*@0-0#1").chance(0, v, 0), BAD);
        due("nothing", claimed("", "*@0-0#1").chance(0, 0, 0), NOT);
        due("a GAP", claimed("g", "!*@0-0#1").chance(0, 0, 0), NOT);
        due("no WAY, above", States.STUCK.make().chance(0, 0, 0), NONE);
        due("no WAY, below", States.STUCK.make().chance(0, 0, 1), NONE);
        due("BAD and NOT", States.STUCK.make().chance(0, 1, 2), BAD);
        due("BAD and NONE", States.STUCK.make().chance(1, 0, 0), BAD);
        due("no PLACE", States.STUCK.make().chance(0, 1, 0), NOT);
        book.refused("NOT", States.STUCK, y -> y.chance(0, 1, 0), NOT);
    }

    /** STONES of YEAR 4 (two, of WEIGHT -3) and of YEAR 9 (one, of WEIGHT 5), a GAP between. */
    private static DripStone madeOf(String claim) {
        DripStone x = new DripStone();
        x.rain(4, 0, 2);
        x.rain(4, 1, -3);
        x.rain(9, 0, 1);
        x.rain(9, 1, 5);
        law(x, "a=2:2;a=1:1");
        x.make(1);
        claim(x, claim);
        return x;
    }

    private static void holds() {
        book.promise(34);
        book.sentence("Whether a CLAIM is so by TRUTH (1, 0).");
        String[] so = {"*@4-4#2", "*@4-9#3", "*@0-23#3", "w<-2@4-4#2", "w>4@9-9#1", "!*@4-4#3", "!*@5-8#1", "*@4-4#3|*@9-9#1",
            "*@4-4#2|*@9-9#2", "*@4-4#2&*@9-9#1", "w<5@0-23#2", "w>-4@0-23#3"};
        String[] not = {"*@4-4#3", "*@5-9#2", "*@4-8#3", "*@0-23#4", "w<-3@0-23#1", "w>5@0-23#1", "!*@4-4#2", "*@4-4#3|*@9-9#2",
            "*@4-4#2&*@9-9#2", "*@4-4#3&*@9-9#1", "*@5-8#1", "*@10-23#1", "*@0-3#1"};
        for (String claim : so) {
            due(claim, madeOf(claim).holds(0, 1), 1);
        }
        for (String claim : not) {
            due(claim, madeOf(claim).holds(0, 1), 0);
        }
        DripStone x = madeOf("*@4-4#2");
        x.date(1, 0, 6, 6, 0);
        due("by TRUTH, not by WAYS", x.holds(0, 1), 1);
        law(x, "*:0");
        x.make(0);
        due("a CANDLE of nothing has a TRUTH", x.holds(0, 0), 0);
        claim(x, "!*@0-23#1");
        due("by which what is not so is so", x.holds(1, 0), 1);
        book.sentence("BAD; NOT: there is none.");
        due("no CLAIM", new DripStone().holds(0, 0), BAD);
        book.range("claim", 0, 0, v -> madeOf("*@4-4#2").holds(v, 1), BAD);
        book.range("candle", 0, 1, v -> madeOf("*@4-4#2").holds(0, v), BAD);
        due("not MADE", madeOf("*@4-4#2").holds(0, 0), NOT);
        x = madeOf("*@4-4#2");
        x.put(1, 0, 0);
        due("put", x.holds(0, 1), NOT);
        x = madeOf("*@4-4#2");
        x.cut(1, 3);
        due("cut", x.holds(0, 1), NOT);
        due("BAD and NOT", x.holds(1, 1), BAD);
        x.make(1);
        due("MADE again", x.holds(0, 1), 1);
    }

    private static void looked() {
        book.promise(35);
        book.sentence("LOOKED for: how many shifts (0), of those how many have ODDS of p / q");
        book.range("what", 0, 1, v -> claimed("s", "*@0-0#1").looked(0, 0, 1, 2, v), BAD);
        DripStone x = claimed("s", "*@5-10#1");
        due("shifts", x.looked(0, 0, 1, 1, 0), 14);
        due("6 of 24 by each", x.looked(0, 0, 1, 4, 1), 14);
        due("not a little more", x.looked(0, 0, 251, 1000, 1), 0);
        x.date(0, 0, 10, 12, 0);
        due("all of 10 .. 12 by the shifts 2 .. 5", x.looked(0, 0, 1, 1, 1), 4);
        due("two of three, too, by 1 .. 6", x.looked(0, 0, 2, 3, 1), 6);
        due("one of three, too, by 0 .. 7", x.looked(0, 0, 1, 3, 1), 8);
        due("nought, too", x.looked(0, 0, 0, 1000, 1), 14);
        x = claimed("ss", "*@0-0#1&*@3-3#1");
        x.date(0, 0, 20, 20, 0);
        x.date(0, 1, 23, 23, 0);
        due("both ATOMS go", x.looked(0, 0, 1, 1, 1), 1);
        x.date(0, 1, 22, 23, 0);
        due("shifts of two ATOMS", x.looked(0, 0, 1, 1, 0), 21);
        book.sentence("(0 <= p <= q, q 1 .. 1000) or more (1).");
        book.range("q", 1, 1000, v -> claimed("s", "*@0-0#1").looked(0, 0, 0, v, 1), BAD);
        book.range("p of 1000", 0, 1000, v -> claimed("s", "*@0-0#1").looked(0, 0, v, 1000, 1), BAD);
        book.range("p of 1", 0, 1, v -> claimed("s", "*@0-0#1").looked(0, 0, v, 1, 1), BAD);
        book.range("q for 7", 7, 1000, v -> claimed("s", "*@0-0#1").looked(0, 0, 7, v, 1), BAD);
        due("0 / 0", claimed("s", "*@0-0#1").looked(0, 0, 0, 0, 1), BAD);
        due("-1 / -1", claimed("s", "*@0-0#1").looked(0, 0, -1, -1, 1), BAD);
        due("p and q are looked at for shifts, too", claimed("s", "*@0-0#1").looked(0, 0, 2, 1, 0), BAD);
        book.sentence("BAD; NOT; NONE.");
        due("no CLAIM", candle("s").looked(0, 0, 1, 2, 0), BAD);
        book.range("claim", 0, 0, v -> claimed("s", "*@0-0#1").looked(v, 0, 1, 2, 0), BAD);
        book.range("candle", 0, 1, v -> claimed("s", "*@0-0#1").looked(0, v, 1, 2, 0), BAD);
        for (int what = 0; what < 2; what++) {
            due("no PLACE", States.STUCK.make().looked(0, 1, 1, 2, what), NOT);
            due("no WAY", States.STUCK.make().looked(0, 0, 1, 2, what), NONE);
        }
        due("BAD and NOT", States.STUCK.make().looked(0, 1, 3, 2, 0), BAD);
        due("BAD and NONE", States.STUCK.make().looked(0, 0, 1, 1001, 0), BAD);
        book.refused("NOT", States.STUCK, y -> y.looked(0, 1, 1, 2, 1), NOT);
    }

    private static void cause() {
        book.promise(36);
        book.sentence("A CAUSE: its number.");
        DripStone x = new DripStone();
        due("the first", x.cause(-30, 30), 0);
        due("the second", x.cause(30, 30), 1);
        due("as many", x.count(3), 2);
        book.sentence("BAD; FULL: 5.");
        book.range("low", -30, 30, v -> new DripStone().cause(v, 30), BAD);
        book.range("high", -30, 30, v -> new DripStone().cause(-30, v), BAD);
        book.range("low up to 4", -30, 4, v -> new DripStone().cause(v, 4), BAD);
        book.range("high from 4 on", 4, 30, v -> new DripStone().cause(4, v), BAD);
        due("the third", x.cause(0, 0), 2);
        due("the fourth", x.cause(0, 0), 3);
        due("the fifth", x.cause(0, 0), 4);
        due("a sixth", x.cause(0, 0), FULL);
        due("BAD and FULL", x.cause(1, 0), BAD);
        due("as many", x.count(3), 5);
        book.refused("FULL", States.FULL, y -> y.cause(-30, 30), FULL);
        book.refusedAlways("low above high", y -> y.cause(1, 0), BAD);
    }

    private static void says() {
        book.promise(37);
        book.sentence("The change from a STONE to a later one:");
        DripStone x = stones(1, 4, 1, 7);
        x.cause(3, 3);
        x.cause(-3, -3);
        x.cause(6, 6);
        // 3 and 6 can be SAID by two sets each, 0 and -3 by one
        int[][] changes = {{0, 1, 2}, {0, 2, 1}, {0, 3, 2}, {1, 2, 1}, {1, 3, 2}, {2, 3, 2}};
        for (int[] c : changes) {
            due("from " + c[0] + " to " + c[1], x.says(0, c[0], c[1], 0), c[2]);
        }
        DripStone far = stones(-50, 50);
        far.cause(30, 30);
        far.cause(30, 30);
        far.cause(30, 30);
        far.cause(0, 30);
        due("from -50 to 50", far.says(0, 0, 1, 0), 1);
        book.sentence("by how many sets it can be SAID (0), the one with the fewest CAUSES, of like ones the least bits (1), "
            + "CAUSES that are in all of them (2).");
        book.range("what", 0, 2, v -> stones(1, 2).says(0, 0, 1, v), BAD);
        saids(3, new int[] {1, 2}, 1, 3, 3);
        saids(3, new int[] {3, 3}, 2, 1, 0);
        saids(3, new int[] {3, 0}, 2, 1, 1);
        saids(3, new int[] {0, 3}, 2, 2, 2);
        saids(3, new int[] {1, 2, 3}, 2, 4, 0);
        saids(3, new int[] {1, 1, 1, 2, 0}, 8, 9, 0);
        saids(0, new int[] {0, 0, 0, 0, 0}, 31, 1, 0);
        saids(0, new int[] {5, -5}, 1, 3, 3);
        saids(6, new int[] {1, 2, 3, 4, 5}, 3, 10, 0);
        saids(15, new int[] {1, 2, 3, 4, 5}, 1, 31, 31);
        saids(14, new int[] {1, 2, 3, 4, 5}, 1, 30, 30);
        saids(16, new int[] {1, 2, 3, 4, 5}, 0, NONE, NONE);
        book.sentence("BAD; CAST: one is no STONE; NONE: by none (1, 2).");
        book.range("candle", 0, 1, v -> States.FULL.make().says(v, 0, 2, 0), BAD);
        book.range("early", 0, 1, v -> stones(1, 2, 3).says(0, v, 2, 0), BAD);
        book.range("late", 1, 2, v -> stones(1, 2, 3).says(0, 0, v, 0), BAD);
        due("the same", stones(1, 2).says(0, 1, 1, 0), BAD);
        due("back", stones(1, 2).says(0, 1, 0, 0), BAD);
        due("early DIRT", candle("ds").says(0, 0, 1, 0), CAST);
        due("late DIRT", candle("sd").says(0, 0, 1, 0), CAST);
        due("early a GAP", candle("gs").says(0, 0, 1, 0), CAST);
        due("late a GAP", candle("sg").says(0, 0, 1, 0), CAST);
        due("over DIRT and a GAP", candle("sdgs").says(0, 0, 3, 0), 0);
        due("BAD and CAST", candle("sd").says(0, 0, 1, 3), BAD);
        due("CAST and NONE", candle("sd").says(0, 0, 1, 1), CAST);
        due("by none, how many", stones(1, 2).says(0, 0, 1, 0), 0);
        due("by none, the fewest", stones(1, 2).says(0, 0, 1, 1), NONE);
        due("by none, in all", stones(1, 2).says(0, 0, 1, 2), NONE);
    }

    /** CAUSES of one change each. */
    private static void saids(int change, int[] causes, int sets, int fewest, int common) {
        DripStone x = stones(0, change);
        for (int c : causes) {
            x.cause(c, c);
        }
        String what = change + " by " + java.util.Arrays.toString(causes);
        due(what + ": sets", x.says(0, 0, 1, 0), sets);
        due(what + ": the fewest", x.says(0, 0, 1, 1), fewest);
        due(what + ": in all", x.says(0, 0, 1, 2), common);
    }

    private static void image() {
        book.promise(38);
        book.sentence("All but SHEETS, THE TAPE is kept as an IMAGE: 1.");
        for (States state : States.values()) {
            due("image of " + state, state.make().image(), 1);
        }
        DripStone x = States.RICH.make();
        due("a second IMAGE", x.image(), 1);
        due("restore", x.restore(), 1);
        same("the second took the place of the first: " + x.most(0, 3), x, States.RICH);
        x = new DripStone();
        x.sheet(0, 0, 3);
        x.type('*', 1);
        x.image();
        x.drop(0);
        x.sheet(1, 1, 2);
        x.type(':', 1);
        x.restore();
        due("a SHEET that went is gone", x.drop(0), NULL);
        due("a SHEET that came is there", x.drop(1), 2);
        due("THE TAPE goes on", x.type('1', 1), 3);
        due("and is a LAW", x.law(), 1);
    }

    /** The CANDLES of an object must be those of a state. */
    private static void same(String what, DripStone x, States state) {
        DripStone y = state.make();
        for (int i = 0; i < 8; i++) {
            due(what + ", count " + i, x.count(i), y.count(i));
        }
        due(what + ", ways", x.ways(0), y.ways(0));
        due(what + ", ways of the other", x.ways(1), y.ways(1));
    }

    private static void restore() {
        book.promise(39);
        book.sentence("All is as it was then: 1.");
        for (States state : States.values()) {
            DripStone x = state.make();
            x.image();
            upset(x);
            due("restore of " + state, x.restore(), 1);
            DripStone y = state.make();
            y.image();
            upset(y);
            due("once more", y.restore() + y.restore(), 2);
            asBefore(state, x, state.make());
            asBefore(state, y, state.make());
        }
        DripStone x = States.RICH.make();
        x.image();
        x.restore();
        x.put(0, 0, 1);
        x.throwOut(0, 9);
        due("restore again", x.restore(), 1);
        due("as it was", x.count(4) * 100 + x.count(1), 1001);
        book.sentence("NONE: there is none.");
        due("at first", new DripStone().restore(), NONE);
        x = new DripStone();
        x.image();
        due("of an empty object", x.restore(), 1);
        book.refused("NONE", States.FRESH, y -> y.restore(), NONE);
        book.refused("NONE", States.STUCK, y -> y.restore(), NONE);
    }

    /** Changes all that an IMAGE keeps. */
    private static void upset(DripStone x) {
        for (int y = 0; y < 24; y += 3) {
            x.rain(y, 0, 7);
            x.rain(y, 1, -7);
            x.rain(y, 2, 7);
        }
        x.set(0, 3);
        x.set(1, 6);
        x.law();
        law(x, "w>2&a<8:3;*:2");
        for (int d = 7; d >= 0; d--) {
            x.throwOut(d, 8 - d);
        }
        x.make(0);
        x.cut(0, 2);
        x.cut(1, 0);
        things(x, 1, "sgsd");
        for (int candle = 0; candle < 2; candle++) {
            x.most(candle, 1);
            x.stretch(candle, 2, 0, 0, 2);
            x.date(candle, 0, 2, 3, 1);
        }
        claim(x, "w>3@1-2#2&*@3-4#2");
        x.law();
        x.cause(-1, 1);
        x.throwOut(0, 2);
        due("the WAYS of both as upset are counted", Long.signum(x.ways(0)) + Long.signum(x.ways(1)), 2);
    }

    private static void asBefore(States state, DripStone got, DripStone want) {
        for (int what = 0; what < 8; what++) {
            due(state + " count " + what, got.count(what), want.count(what));
        }
        for (int i = 0; i < 24; i++) {
            int c = i / 12;
            int t = i % 12;
            due(state + " grows", got.grows(i), want.grows(i));
            due(state + " kind", got.thing(c, t, 0), want.thing(c, t, 0));
            due(state + " weight", got.thing(c, t, 1), want.thing(c, t, 1));
            due(state + " truth", got.truth(c, t), want.truth(c, t));
            due(state + " least", got.ends(c, t, 0), want.ends(c, t, 0));
            due(state + " most", got.ends(c, t, 1), want.ends(c, t, 1));
        }
        for (int c = 0; c < 2; c++) {
            due(state + " ways", got.ways(c), want.ways(c));
            due(state + " sets", got.says(c, 0, 4, 0), want.says(c, 0, 4, 0));
            for (int k = 0; k < 4; k++) {
                due(state + " chance", got.chance(k, c, 0), want.chance(k, c, 0));
                due(state + " holds", got.holds(k, c), want.holds(k, c));
            }
            due(state + " MOST", got.most(c, 1), want.most(c, 1));
            due(state + " K, SEEN", got.set(c, 1), want.set(c, 1));
            due(state + " STRETCHES", got.stretch(c, 0, 0, 0, 0), want.stretch(c, 0, 0, 0, 0));
        }
        for (int i = 0; i < 72; i++) {
            due(state + " rain", got.rain(i / 3, i % 3, 0), want.rain(i / 3, i % 3, 0));
        }
        for (int d = 0; d < 8; d++) {
            due(state + " reason", got.throwOut(d, 0), want.throwOut(d, 0));
        }
    }

    private static void sheet() {
        book.promise(40);
        book.sentence("A SHEET holds a new row of a LANE: n.");
        DripStone x = new DripStone();
        due("of none", x.sheet(3, 2, 0), 0);
        due("of one", x.sheet(3, 2, 1), 1);
        due("of 24", x.sheet(3, 2, 24), 24);
        due("of ints", x.item(3, 2, 23, 7), 1);
        due("anew, shorter, of bytes", x.sheet(3, 0, 23), 23);
        due("not of ints any more", x.item(3, 2, 0, 7), CAST);
        due("no item 23", x.item(3, 0, 23, 7), INDEX);
        due("an item 22", x.item(3, 0, 22, 7), 1);
        due("anew", x.sheet(3, 0, 24), 24);
        due("all are 0: the AMOUNTS", x.rains(0, 3, 0, 0, 24), 24);
        int sum = 0;
        for (int y = 0; y < 24; y++) {
            sum += Math.abs(x.rain(y, 0, 0));
        }
        due("in all", sum, 0);
        due("the others hold nothing", x.drop(0) + x.drop(1) + x.drop(2), 3 * NULL);
        book.sentence("BAD: also n above 24; SIZE: n below 0.");
        book.range("sheet", 0, 3, v -> new DripStone().sheet(v, 0, 1), BAD);
        book.range("lane", 0, 2, v -> new DripStone().sheet(0, v, 1), BAD);
        due("24", new DripStone().sheet(0, 0, 24), 24);
        due("25", new DripStone().sheet(0, 0, 25), BAD);
        due("far above", new DripStone().sheet(0, 0, MAX), BAD);
        due("0", new DripStone().sheet(0, 0, 0), 0);
        due("-1", new DripStone().sheet(0, 0, -1), SIZE);
        due("far below", new DripStone().sheet(0, 0, MIN), SIZE);
        due("BAD and SIZE: sheet", new DripStone().sheet(4, 0, -1), BAD);
        due("BAD and SIZE: lane", new DripStone().sheet(0, 3, -1), BAD);
        book.refusedAlways("25", y -> y.sheet(0, 1, 25), BAD);
        book.refusedAlways("-1", y -> y.sheet(1, 2, -1), SIZE);
        book.refusedAlways("lane 3", y -> y.sheet(1, 3, 2), BAD);
    }

    private static void drop() {
        book.promise(41);
        book.sentence("A SHEET holds nothing: how many items it had.");
        DripStone x = new DripStone();
        for (int n = 0; n <= 24; n += 8) {
            x.sheet(2, 1, n);
            due("drop", x.drop(2), n);
            due("nothing", x.item(2, 1, 0, 1), NULL);
        }
        x.sheet(1, 0, 2);
        x.sheet(2, 0, 3);
        x.drop(1);
        due("the other stays", x.drop(2), 3);
        book.sentence("BAD; NULL.");
        book.range("sheet", 0, 3, v -> new DripStone().drop(v), BAD);
        due("at first", new DripStone().drop(0), NULL);
        due("twice", x.drop(2), NULL);
        book.refusedAlways("sheet -1", y -> y.drop(-1), BAD);
        book.refused("NULL", States.RICH, y -> y.drop(2), NULL);
    }

    private static void item() {
        book.promise(42);
        book.sentence("Item i of a SHEET, taken as a row of a LANE, becomes v, its lowest bits: 1.");
        DripStone x = new DripStone();
        x.sheet(0, 0, 3);
        due("the first", x.item(0, 0, 0, 5), 1);
        due("the last", x.item(0, 0, 2, -256 + 7), 1);
        x.rains(1, 0, 0, 0, 3);
        due("the first", x.rain(0, 1, 0), 5);
        due("the second is 0 still", x.rain(1, 1, 0), 0);
        due("the last: its lowest bits", x.rain(2, 1, 0), 7);
        int[] bits = {8, 16};
        for (int lane = 0; lane < 2; lane++) {
            int[] kept = {-1, 20, -20, 0};
            int more = 1 << bits[lane];
            for (int k : kept) {
                fill(x, 1, lane, k + more, k - more, k + 3 * more);
                for (int i = 0; i < 3; i++) {
                    due("LANE " + lane + " takes it as it is", x.rains(1, 1, lane, i, 1), 1);
                    due("LANE " + lane + ", " + k, x.rain(0, 1, 0), k);
                }
            }
            fill(x, 1, lane + 1, more);
            due("a wider LANE keeps it", x.rains(1, 1, lane + 1, 0, 1), NOT);
        }
        book.sentence("BAD; NULL; CAST; INDEX.");
        book.range("sheet", 0, 3, v -> new DripStone().item(v, 0, 0, 0), BAD);
        book.range("lane", 0, 2, v -> new DripStone().item(0, v, 0, 0), BAD);
        book.range("i", 0, 23, v -> fullSheet().item(0, 1, v, 0), INDEX);
        due("of none", emptySheet().item(0, 1, 0, 0), INDEX);
        due("nothing", fullSheet().item(1, 1, 0, 0), NULL);
        due("bytes", fullSheet().item(0, 0, 0, 0), CAST);
        due("ints", fullSheet().item(0, 2, 0, 0), CAST);
        due("BAD and NULL", fullSheet().item(1, 3, 0, 0), BAD);
        due("BAD and INDEX", fullSheet().item(4, 1, 24, 0), BAD);
        due("NULL and INDEX", fullSheet().item(1, 1, 24, 0), NULL);
        due("CAST and INDEX", fullSheet().item(0, 0, -1, 0), CAST);
        book.refused("CAST", States.RICH, y -> y.item(0, 1, 0, 9), CAST);
        book.refused("INDEX", States.RICH, y -> y.item(0, 0, 4, 9), INDEX);
        book.refused("INDEX", States.RICH, y -> y.item(3, 0, 0, 9), INDEX);
        book.refusedAlways("sheet 4", y -> y.item(4, 0, 0, 9), BAD);
    }

    private static DripStone fullSheet() {
        DripStone x = new DripStone();
        x.sheet(0, 1, 24);
        return x;
    }

    private static DripStone emptySheet() {
        DripStone x = new DripStone();
        x.sheet(0, 1, 0);
        return x;
    }
}
