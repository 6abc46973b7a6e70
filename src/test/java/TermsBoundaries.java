/** Every sentence of the document's terms: what is just so, and what is just not so any more. */
public final class TermsBoundaries extends Setup {
    public static void main(String[] args) throws Exception {
        book = new Book("Terms", "Promise 1:");
        refusals();
        refusedChangesNothing();
        rainAndHill();
        lawTexts();
        growthByLaw();
        candles();
        made();
        waysOfPlaces();
        stretches();
        dates();
        countedWays();
        twoCandles();
        claimTexts();
        claimsHeld();
        faults();
        causes();
        sheets();
        book.close();
    }

    private static void refusals() {
        book.sentence("Refusals are answers, of several the first that a call names:");
        DripStone x = States.STUCK.make();
        due("BAD of BAD, CAST, NONE", x.ends(0, 1, 2), -1);
        due("CAST of CAST, NONE", x.ends(0, 1, 0), -12);
        due("NONE alone", x.ends(0, 0, 0), -4);
        due("NOT of NOT, NULL", x.judge(1, 3, 0, 0), -2);
        due("BAD of BAD, FULL", States.FULL.make().put(0, 0, 51), -1);

        book.sentence("BAD -1 (a number is not as told, or names nothing)");
        due("the constant", BAD, -1);
        due("a number that is not as told", x.set(0, 0), -1);
        due("a DATE that is not there", x.throwOut(3, 0), -1);
        due("a DATE that is there", x.throwOut(2, 0), 0);
        book.sentence("NOT -2 (as told)");
        due("the constant", NOT, -2);
        due("no PLACE", x.ways(1), -2);
        book.sentence("FULL -3");
        due("the constant", FULL, -3);
        due("a 13th THING", States.FULL.make().put(1, 0, 0), -3);
        book.sentence("NONE -4 (as told)");
        due("the constant", NONE, -4);
        due("no WAY", x.next(0, 0), -4);
        book.sentence("CAST -12 (a THING of another KIND; of SHEETS another LANE)");
        due("the constant", CAST, -12);
        due("a GAP has no YEAR", x.ends(0, 1, 0), -12);
        due("bytes are no shorts", x.item(0, 1, 0, 0), -12);
        due("bytes are bytes", x.item(0, 0, 0, 0), 1);
        book.sentence("what the machine finds: NULL -11, INDEX -13, SIZE -14");
        due("the constants", NULL * 10000L + INDEX * 100L + SIZE, -11 * 10000L - 13 * 100L - 14);
        due("nothing there", x.item(1, 0, 0, 0), -11);
        due("an item behind the last", x.item(0, 0, 3, 0), -13);
        due("the last item", x.item(0, 0, 2, 0), 1);
        due("a row below nothing", x.sheet(0, 0, -1), -14);
        book.sentence("(NULL, CAST, INDEX, SIZE in this order, behind BAD)");
        due("NULL, and INDEX", x.item(1, 0, -1, 0), -11);
        due("CAST, and INDEX", x.item(0, 2, 3, 0), -12);
        due("BAD, and NULL", x.item(1, 3, 0, 0), -1);
        due("BAD, and CAST", x.item(0, 3, 0, 0), -1);
        due("BAD, and SIZE", x.sheet(0, 3, -1), -1);

        book.sentence("Where numbers of both signs are told, refused ones are 1000 less (-1001 and so on).");
        due("rain", x.rain(24, 0, 0), -1001);
        due("water", x.water(24), -1001);
        due("water, NONE", x.water(23), -1004);
        due("thing", x.thing(0, 3, 0), -1001);
        due("thing, CAST", x.thing(0, 1, 1), -1012);
        due("leans", x.leans(3, 0, 0), -1001);
        due("leans, CAST", x.leans(0, 1, 0), -1012);
        due("leans, NONE", x.leans(0, 0, 0), -1004);
        due("wet tells no sign", x.wet(24), -1);
        due("says tells no sign", x.says(0, 0, 2, 3), -1);
    }

    private static void refusedChangesNothing() {
        book.sentence("What is refused changes nothing.");
        book.refusedAlways("rain of no YEAR", x -> x.rain(24, 0, 7), -1001);
        book.refusedAlways("rain of no kind", x -> x.rain(0, 3, 7), -1001);
        book.refusedAlways("rain of AMOUNT 10", x -> x.rain(6, 0, 10), -1001);
        book.refusedAlways("K 6", x -> x.set(0, 6), BAD);
        book.refusedAlways("SEEN 10", x -> x.set(1, 10), BAD);
        book.refusedAlways("a byte 127 behind good ones", x -> x.type(0x2a3a7fL, 3), BAD);
        book.refusedAlways("9 bytes", x -> x.type(0x2a3a312a3a31L, 9), BAD);
        book.refusedAlways("make of candle 2", x -> x.make(2), BAD);
        book.refusedAlways("put of candle 2", x -> x.put(2, 0, 0), BAD);
        book.refusedAlways("put of WEIGHT 51", x -> x.put(0, 0, 51), BAD);
        book.refusedAlways("DIRT of WEIGHT 1", x -> x.put(1, 1, 1), BAD);
        book.refusedAlways("cut behind all", x -> x.cut(0, x.count(4)), BAD);
        book.refusedAlways("cut ahead of all", x -> x.cut(1, -1), BAD);
        book.refusedAlways("MOST 5", x -> x.most(0, 5), BAD);
        book.refusedAlways("a STRETCH that goes back", x -> x.stretch(0, 0, 1, 0, 0), BAD);
        book.refusedAlways("EVEN with n", x -> x.stretch(0, 0, 0, 0, 1), BAD);
        book.refusedAlways("a DATE that goes back", x -> x.date(0, 0, 5, 4, 0), BAD);
        book.refusedAlways("reason 10", x -> x.throwOut(0, 10), BAD);
        book.refusedAlways("a DATE that is not there", x -> x.throwOut(8, 1), BAD);
        book.refusedAlways("a CAUSE that goes back", x -> x.cause(1, 0), BAD);
        book.refusedAlways("a SHEET of 25", x -> x.sheet(0, 0, 25), BAD);
        book.refusedAlways("a SHEET of -1", x -> x.sheet(0, 0, -1), SIZE);
        book.refusedAlways("drop of sheet 4", x -> x.drop(4), BAD);
        book.refusedAlways("item of lane 3", x -> x.item(0, 3, 0, 9), BAD);
        book.refusedAlways("rains of 25 YEARS", x -> x.rains(0, 0, 0, 0, 25), BAD);
        book.refusedAlways("learn by e 10", x -> x.learn(0, 0, 0, 1, 10), BAD);
        for (States state : new States[] {States.FRESH, States.STUCK}) {
            book.refused("make without a LAW", state, x -> x.make(0), NOT);
            book.refused("restore without an IMAGE", state, x -> x.restore(), NONE);
            book.refused("drop of nothing", state, x -> x.drop(1), NULL);
            book.refused("item of nothing", state, x -> x.item(1, 0, 0, 9), NULL);
            book.refused("rains of nothing", state, x -> x.rains(0, 1, 0, 0, 1), NULL);
        }
        refusedInRichAndFull();
    }

    private static void refusedInRichAndFull() {
        book.refused("a STRETCH from a GAP", States.RICH, x -> x.stretch(0, 0, 3, 4, 0), CAST);
        book.refused("a STRETCH to a GAP", States.RICH, x -> x.stretch(0, 0, 2, 3, 0), CAST);
        book.refused("a DATE of a GAP", States.RICH, x -> x.date(0, 3, 0, 23, 0), CAST);
        book.refused("items of another LANE", States.RICH, x -> x.rains(1, 1, 0, 0, 3), CAST);
        book.refused("one more than there are", States.RICH, x -> x.rains(1, 1, 1, 0, 4), INDEX);
        book.refused("the first is no AMOUNT", States.RICH, x -> x.rains(0, 1, 1, 0, 3), NOT);
        book.refused("the last is no AMOUNT", States.RICH, x -> {
            x.item(1, 1, 0, 5);
            x.item(1, 1, 2, 10);
            long refusal = x.rains(0, 1, 1, 0, 3);
            x.item(1, 1, 0, -5);
            x.item(1, 1, 2, 7);
            return refusal;
        }, NOT);
        book.refused("an item of another LANE", States.RICH, x -> x.item(1, 0, 0, 9), CAST);
        book.refused("an item that is not there", States.RICH, x -> x.item(1, 1, 3, 9), INDEX);
        book.refused("a 13th THING", States.FULL, x -> x.put(0, 0, 5), FULL);
        book.refused("a 13th THING of the other", States.FULL, x -> x.put(1, 2, 0), FULL);
        book.refused("a 7th STRETCH", States.FULL, x -> x.stretch(0, 2, 0, 1, 20), FULL);
        book.refused("a 7th STRETCH of the other", States.FULL, x -> x.stretch(1, 2, 0, 1, 20), FULL);
        book.refused("a 9th DATE", States.FULL, x -> x.date(0, 0, 20, 21, 0), FULL);
        book.refused("a 6th CAUSE", States.FULL, x -> x.cause(1, 2), FULL);
        book.refused("an 81st byte", States.FULL, x -> x.type('*', 1), FULL);
        book.refused("88 bytes", States.FULL, x -> x.type(0x2a2a2a2a2a2a2a2aL, 8), FULL);
        book.refused("learn where none fits", States.RICH, x -> x.learn(0, 0, 0, 1, 0), NONE);
        book.refused("judge of candle 1, no PLACE", States.STUCK, x -> x.judge(1, 0, 0, 0), NOT);
        book.refused("mustGo without a PLACE", States.STUCK, x -> x.mustGo(1), NOT);
        book.refused("leans where there is no WAY", States.STUCK, x -> x.leans(1, 2, 0), -1004);
        book.refused("tie where there is no PLACE", States.STUCK, x -> x.tie(0), NOT);
        book.refused("chance where there is no WAY", States.STUCK, x -> x.chance(0, 0, 0), NONE);
        book.refused("looked where there is no WAY", States.STUCK, x -> x.looked(0, 0, 1, 2, 1), NONE);
    }

    private static void rainAndHill() {
        book.sentence("YEARS are 0 .. 23, the oldest first.");
        book.range("rain of YEAR", 0, 23, v -> new DripStone().rain(v, 0, 1), -1001);
        book.range("wet of YEAR", 0, 23, v -> new DripStone().wet(v), BAD);
        book.range("water of YEAR", 0, 23, v -> States.RICH.make().water(v), -1001);
        book.range("grows of YEAR", 0, 23, v -> new DripStone().grows(v), BAD);
        book.range("odds of YEAR", 0, 23, v -> candle("s").odds(0, 0, v, 0), BAD);
        book.range("date from YEAR", 0, 23, v -> candle("s").date(0, 0, v, 23, 0), BAD);
        book.range("date to YEAR", 0, 23, v -> candle("s").date(0, 0, 0, v, 0), BAD);
        due("the oldest comes first along a CANDLE", judge(candle("ss"), 0, 23), -4);

        book.sentence("RAIN of a YEAR: AMOUNT (0 .. 9), WEIGHT (-20 .. 20), HEAT (0 .. 9);");
        int[] low = {0, -20, 0};
        int[] high = {9, 20, 9};
        for (int what = 0; what < 3; what++) {
            int kind = what;
            book.range("rain " + what, low[what], high[what], v -> new DripStone().rain(0, kind, v), -1001);
            book.range("rains " + what, low[what], high[what], v -> rainsOf(kind, v), NOT);
            DripStone x = new DripStone();
            x.rain(0, what, low[what]);
            due("the least is kept", x.rain(0, what, high[what]), low[what]);
            due("the most is kept", x.rain(0, what, 0), high[what]);
        }
        book.sentence("0 each at first.");
        DripStone x = new DripStone();
        for (int i = 0; i < 72; i++) {
            due("at first", x.rain(i / 3, i % 3, 1), 0);
        }

        book.sentence("THE HILL KEEPS K YEARS (1 .. 5; 1 at first):");
        book.range("K", 1, 5, v -> new DripStone().set(0, v), BAD);
        due("at first", new DripStone().set(0, 1), 1);
        wetAndWater();
    }

    private static int rainsOf(int what, int v) {
        DripStone x = new DripStone();
        fill(x, 0, 2, v);
        return x.rains(what, 0, 2, 0, 1);
    }

    private static void wetAndWater() {
        book.sentence("WET of a YEAR is the sum of AMOUNTS of it and of K less 1 ahead of it (from YEAR 0 on);");
        DripStone x = new DripStone();
        amounts(x, 1, 2, 3, 4, 5, 6);
        x.rain(19, 0, 7);
        x.rain(23, 0, 9);
        int[][] wet = {{1, 2, 3, 4, 5, 6, 0}, {1, 3, 5, 7, 9, 11, 6}, {1, 3, 6, 9, 12, 15, 11}, {1, 3, 6, 10, 14, 18, 15},
            {1, 3, 6, 10, 15, 20, 18}};
        for (int k = 1; k <= 5; k++) {
            x.set(0, k);
            for (int y = 0; y < 7; y++) {
                due("wet of " + y + " by " + k, x.wet(y), wet[k - 1][y]);
            }
            due("wet of the last by " + k, x.wet(23), k == 5 ? 16 : 9);
            due("wet of 22 by " + k, x.wet(22), k >= 4 ? 7 : 0);
        }
        DripStone most = new DripStone();
        amounts(most, 9, 9, 9, 9, 9, 9);
        most.set(0, 5);
        due("the most", most.wet(5), 45);

        book.sentence("WATER is the sum of AMOUNT times WEIGHT over these by WET");
        waterOf(1, 20, 1, 20, 20);
        waterOf(9, 20, 9, 20, 20);
        waterOf(9, -20, 9, -20, -20);
        waterOf(2, 10, 6, 2, 4);
        waterOf(0, 20, 1, 3, 3);
        waterOf(1, 3, 0, 20, 3);
        book.sentence("(cut; none, if WET is 0)");
        waterOf(1, 1, 1, 0, 0);
        waterOf(1, -1, 1, 0, 0);
        waterOf(1, 1, 2, 2, 1);
        waterOf(1, -1, 2, -2, -1);
        waterOf(1, -1, 1, 1, 0);
        waterOf(0, 20, 0, 20, -1004);
        waterOf(0, 0, 1, 0, 0);
        DripStone dry = new DripStone();
        dry.rain(5, 0, 3);
        dry.rain(5, 1, -6);
        for (int k = 1; k <= 5; k++) {
            dry.set(0, k);
            due("the last YEAR that has it by " + k, dry.water(5 + k - 1), -6);
            due("the first that has it not by " + k, dry.water(5 + k), -1004);
            due("ahead of it by " + k, dry.water(4), -1004);
        }
    }

    /** WATER by two YEARS. */
    private static void waterOf(int amount0, int weight0, int amount1, int weight1, int want) {
        DripStone x = new DripStone();
        x.set(0, 2);
        x.rain(22, 0, amount0);
        x.rain(22, 1, weight0);
        x.rain(23, 0, amount1);
        x.rain(23, 1, weight1);
        String what = "water of " + amount0 + " times " + weight0 + ", " + amount1 + " times " + weight1;
        due(what, x.water(23), want);
    }

    private static void lawTexts() {
        book.sentence("THE LAW of the drip is a TEXT (none at first: nothing grows):");
        DripStone x = new DripStone();
        amounts(x, 9);
        due("no LAW", x.grows(0), 0);
        due("no LAW, nothing is MADE", x.make(0), NOT);
        law(x, "*:1");
        due("a LAW", x.grows(0), 1);

        book.sentence("1 to 6 CLAUSES with ; between:");
        due("none", lawOf(""), -20);
        due("one", lawOf("*:1"), 1);
        due("two", lawOf("*:1;*:2"), 2);
        due("six", lawOf("*:1;*:1;*:1;*:1;*:1;*:1"), 6);
        due("seven: the sixth ; can't stand", lawOf("*:1;*:1;*:1;*:1;*:1;*:1;*:1"), -20 - 23);
        due("six and a ;", lawOf("*:1;*:1;*:1;*:1;*:1;*:1;"), -20 - 23);
        due("one and a ;", lawOf("*:1;"), -24);
        due("nothing between", lawOf("*:1;;*:1"), -24);
        due("no ; between", lawOf("*:1*:1"), -23);
        due("the sixth counts", sixth(), 4);

        book.sentence("a TEST, :, a digit 0 .. 4.");
        due("no TEST", lawOf(":1"), -20);
        due("no :", lawOf("*1"), -21);
        due("no digit", lawOf("*:"), -22);
        for (int digit = 0; digit <= 4; digit++) {
            due("digit " + digit, growth("*:" + digit, 1, 0), digit);
        }
        due("digit 5", lawOf("*:5"), -22);
        due("digit 9", lawOf("*:9"), -22);
        due("the byte ahead of 0", lawOf("*:/"), -22);
        due("two digits", lawOf("*:00"), -23);
        due("minus", lawOf("*:-1"), -22);

        book.sentence("TEST: * (always), or 1 to 3 CONDITIONS with & between:");
        due("always, the least rain", growth("*:2", 1, 9), 2);
        due("one", lawOf("a<1:1"), 1);
        due("two", lawOf("a<1&a<1:1"), 1);
        due("three", lawOf("a<1&a<1&a<1:1"), 1);
        due("four: the third & can't stand", lawOf("a<1&a<1&a<1&a<1:1"), -31);
        due("nothing behind &", lawOf("a<1&:1"), -24);
        due("nothing ahead of &", lawOf("&a<1:1"), -20);
        due("no & between", lawOf("a<1a<1:1"), -23);
        due("* and a CONDITION", lawOf("*&a<1:1"), -21);
        due("a CONDITION and *", lawOf("a<1&*:1"), -24);
        due("two *", lawOf("**:1"), -21);
        conditions();
    }

    private static int sixth() {
        DripStone x = new DripStone();
        amounts(x, 1);
        law(x, "a>8:1;a>8:1;a>8:1;a>8:1;a>8:1;*:4");
        return x.grows(0);
    }

    private static void conditions() {
        book.sentence("a (AMOUNT), h (HEAT) or w (WET), then <, > or =,");
        for (String subject : new String[] {"a", "h", "w"}) {
            for (int v = 4; v <= 6; v++) {
                due(subject + "<5 by " + v, tested(subject + "<5", v), v < 5 ? 1 : 0);
                due(subject + ">5 by " + v, tested(subject + ">5", v), v > 5 ? 1 : 0);
                due(subject + "=5 by " + v, tested(subject + "=5", v), v == 5 ? 1 : 0);
            }
        }
        for (char c : new char[] {'`', 'b', 'g', 'i', 'v', 'x', 'A', '0', '!'}) {
            due("subject " + c, lawOf(c + "<1:1"), -20);
        }
        for (char c : new char[] {';', '?', '!', ':', '1', '&', '*'}) {
            due("sign " + c, lawOf("a" + c + "1:1"), -21);
        }
        due("two signs", lawOf("a<=1:1"), -22);
        due("the third of three does not hold", growth("a=1&h=2&w=2:3", 1, 2), 0);
        due("the second of three does not hold", growth("a=1&h=3&w=1:3", 1, 2), 0);
        due("the first of three does not hold", growth("a=2&h=2&w=1:3", 1, 2), 0);
        due("all three hold", growth("a=1&h=2&w=1:3", 1, 2), 3);

        book.sentence("then a number (0 .. 99).");
        due("0", growth("h=0:2", 1, 0), 2);
        due("0 is not less", growth("h<0:2", 1, 0), 0);
        due("99", growth("w<99:2", 1, 0), 2);
        due("more than 99", growth("w>99:2", 1, 0), 0);
        due("100", lawOf("w<100:2"), -22);
        due("-1", lawOf("w>-1:2"), -22);
        due("none", lawOf("w>:2"), -22);
        due("the byte behind 9 is the :", lawOf("w>9:2"), 1);
        DripStone x = new DripStone();
        x.set(0, 5);
        amounts(x, 9, 9, 9, 9, 9);
        law(x, "w=45:4");
        due("the most WET", x.grows(4), 4);
        due("a YEAR less", x.grows(3), 0);
    }

    /** Whether a condition holds where AMOUNT, HEAT and WET are what is told, or another two are 9. */
    private static int tested(String condition, int v) {
        DripStone x = new DripStone();
        char subject = condition.charAt(0);
        x.set(0, subject == 'w' ? 2 : 1);
        x.rain(0, 0, subject == 'w' ? v - 1 : 0);
        x.rain(1, 0, subject == 'w' ? 1 : subject == 'a' ? v : 9);
        x.rain(1, 2, subject == 'h' ? v : 9);
        law(x, condition + ":1");
        return x.grows(1);
    }

    private static void growthByLaw() {
        book.sentence("GROWTH of a YEAR is the digit of the first CLAUSE whose TEST holds");
        due("the first", growth("a>0:1;a>0:2", 1, 0), 1);
        due("the second", growth("a>1:1;a>0:2", 1, 0), 2);
        due("the first, though it is 0", growth("a>0:0;*:3", 1, 0), 0);
        due("the last", growth("a>1:1;a>1:2;*:3", 1, 0), 3);
        book.sentence("(none: 0; 0 where WET is 0)");
        due("none", growth("a>1:1;a>2:2", 1, 0), 0);
        due("WET is 0, always", growth("*:4", 0, 0), 0);
        due("WET is 0, asked for", growth("w=0:4", 0, 9), 0);
        due("WET is 1", growth("w=1:4", 1, 9), 4);
        DripStone x = new DripStone();
        x.set(0, 2);
        amounts(x, 1);
        law(x, "a=0:3");
        due("AMOUNT is 0, WET is not", x.grows(1), 3);
        due("WET is 0, too", x.grows(2), 0);
    }

    private static void candles() {
        book.sentence("CANDLES 0, 1 are rows of up to 12 THINGS (none at first),");
        book.range("candle", 0, 1, v -> new DripStone().put(v, 0, 0), BAD);
        DripStone x = new DripStone();
        due("none at first", x.count(4) + x.count(5), 0);
        due("no THING 0", x.thing(0, 0, 0), -1001);
        things(x, 0, "sssssssssss");
        due("the 12th", x.put(0, 1, 0), 11);
        due("the 13th", x.put(0, 1, 0), FULL);
        due("THING 11", x.thing(0, 11, 0), 1);
        due("no THING 12", x.thing(0, 12, 0), -1001);
        due("the other has its own row", x.put(1, 0, 0), 0);

        book.sentence("of KINDS: 0 STONE with a WEIGHT (-50 .. 50), below it 1 DIRT (without one); 2 GAP.");
        book.range("KIND", 0, 2, v -> new DripStone().put(0, v, 0), BAD);
        book.range("WEIGHT of a STONE", -50, 50, v -> new DripStone().put(0, 0, v), BAD);
        book.range("WEIGHT of DIRT", 0, 0, v -> new DripStone().put(0, 1, v), BAD);
        book.range("WEIGHT of a GAP", 0, 0, v -> new DripStone().put(0, 2, v), BAD);
        x = stones(-50, 50);
        things(x, 0, "dg");
        due("the least WEIGHT", x.thing(0, 0, 1), -50);
        due("the most", x.thing(0, 1, 1), 50);
        due("DIRT has none", x.thing(0, 2, 1), -1012);
        due("a GAP has none", x.thing(0, 3, 1), -1012);

        book.sentence("STONE and DIRT are PLACES;");
        due("STONE, DIRT, not a GAP", candle("sdg").count(6), 2);
        due("a STONE has a YEAR", candle("s").ends(0, 0, 1), 23);
        due("DIRT has a YEAR", candle("d").ends(0, 0, 1), 23);
        due("a GAP has none", candle("g").ends(0, 0, 1), CAST);
        book.sentence("two PLACES with only GAPS or nothing between are NEIGHBOURS.");
        String[] between = {"ss", "sgs", "sgggs", "sds", "sgdgs"};
        int[] least = {5, 5, 5, 10, 10};
        for (int i = 0; i < between.length; i++) {
            x = candle(between[i]);
            int last = between[i].length() - 1;
            x.stretch(0, 2, 0, last, 5);
            due("5 YEARS from one to its NEIGHBOUR: " + between[i], x.span(0, 0, last, 0), least[i]);
        }
    }

    private static void made() {
        book.sentence("MADE, a CANDLE is that of the LAW: from YEAR 0 on each YEAR puts down GROWTH STONES,");
        DripStone x = new DripStone();
        x.rain(0, 0, 1);
        x.rain(1, 0, 2);
        x.rain(2, 0, 3);
        law(x, "a=1:4;a=2:1");
        due("4 and 1 and 0", x.make(0), 5);
        int[] years = {0, 0, 0, 0, 1};
        for (int t = 0; t < 5; t++) {
            due("THING " + t, x.truth(0, t), years[t]);
        }
        x = new DripStone();
        x.rain(23, 0, 1);
        law(x, "*:3");
        due("the last YEAR, too", x.make(0), 3);
        due("it is of that", x.truth(0, 0), 23);
        law(x, "*:0");
        due("nothing", x.make(0), 0);

        book.sentence("of its WATER less its HEAT;");
        due("the least", weightMade(-20, 9), -29);
        due("the most", weightMade(20, 0), 20);
        due("nought", weightMade(9, 9), 0);
        int[] byK = {40 / 2, 30 / 3, 10 / 4, -10 / 5, -30 / 6};
        for (int k = 1; k <= 5; k++) {
            due("WATER by K " + k, weightKept(k), byK[k - 1]);
        }
        gaps();
        whatFits();
        truths();
    }

    private static int weightMade(int weight, int heat) {
        DripStone x = new DripStone();
        x.rain(3, 0, 1);
        x.rain(3, 1, weight);
        x.rain(3, 2, heat);
        law(x, "*:1");
        x.make(0);
        return x.thing(0, 0, 1);
    }

    /** The WEIGHT that is MADE of YEAR 4, where others are kept. */
    private static int weightKept(int k) {
        DripStone x = new DripStone();
        int[] weights = {-20, -20, -20, -10, 20};
        for (int y = 0; y < 5; y++) {
            x.rain(y, 0, y == 4 ? 2 : 1);
            x.rain(y, 1, weights[y]);
        }
        x.set(0, k);
        law(x, "a=2:1");
        x.make(0);
        return x.thing(0, 0, 1);
    }

    private static void gaps() {
        book.sentence("ahead of the first STONE of a YEAR a GAP is put, if there is a STONE ahead");
        due("ahead of the first of 4 alone", madeBy(3, 3, 4), 4 + 1 + 4);
        DripStone x = new DripStone();
        x.set(1, 1);
        x.rain(9, 0, 1);
        law(x, "*:1");
        due("no STONE ahead, no GAP", x.make(0), 1);
        due("a STONE", x.thing(0, 0, 0), 0);
        book.sentence("and SEEN (1 .. 9; 3 at first) or more YEARS between put down nothing;");
        book.range("SEEN", 1, 9, v -> new DripStone().set(1, v), BAD);
        due("at first", new DripStone().set(1, 1), 3);
        for (int seen = 1; seen <= 9; seen++) {
            due("SEEN " + seen + ", one less between", madeBy(seen, seen - 1, 1), 2);
            due("SEEN " + seen + ", as many between", madeBy(seen, seen, 1), 3);
            due("SEEN " + seen + ", one more between", madeBy(seen, seen + 1, 1), 3);
        }
        due("3 at first, 2 between", madeBy(0, 2, 1), 2);
        due("3 at first, 3 between", madeBy(0, 3, 1), 3);
        x = new DripStone();
        x.set(1, 2);
        amounts(x, 1, 0, 2, 0, 1);
        law(x, "a=1:1");
        due("YEARS with rain that put down nothing are between", x.make(0), 3);
        law(x, "a=1:1;a=2:2");
        due("YEARS that put down something are not", x.make(0), 4);
    }

    /** How many THINGS come of two YEARS with rain and others between; SEEN 0 is left as it is. */
    private static int madeBy(int seen, int between, int growth) {
        DripStone x = new DripStone();
        if (seen > 0) {
            x.set(1, seen);
        }
        x.rain(2, 0, 1);
        x.rain(3 + between, 0, 1);
        law(x, "*:" + growth);
        return x.make(1);
    }

    private static void whatFits() {
        book.sentence("what does not fit into 12 THINGS is not put down.");
        DripStone x = new DripStone();
        amounts(x, 1, 1, 1, 2);
        law(x, "a=1:4");
        due("twelve fit", x.make(0), 12);
        due("the last is of 2", x.truth(0, 11), 2);
        law(x, "*:4");
        due("the 13th to the 16th do not", x.make(0), 12);
        due("the last is still of 2", x.truth(0, 11), 2);
        law(x, "a=1:3;a=2:2");
        due("eleven", x.make(0), 11);
        law(x, "a=1:3;a=2:4");
        due("three of four", x.make(0), 12);
        due("they are of 3", x.truth(0, 9) * 10 + x.truth(0, 11), 33);
        x = new DripStone();
        x.set(1, 1);
        amounts(x, 1, 1, 2, 0, 1);
        law(x, "a=1:4;a=2:2");
        due("a GAP and the first of four", x.make(0), 12);
        due("the GAP", x.thing(0, 10, 0), 2);
        due("the STONE", x.truth(0, 11), 4);
        law(x, "a=1:4;a=2:3");
        due("a GAP is the 12th", x.make(0), 12);
        due("the GAP", x.thing(0, 11, 0), 2);
        law(x, "*:4");
        due("no GAP behind the 12th", x.make(0), 12);
        due("a STONE", x.thing(0, 11, 0), 0);
    }

    private static void truths() {
        book.sentence("It is its TRUTH that each STONE is of its YEAR. (By put(), cut() there is no TRUTH any more.)");
        DripStone x = States.RICH.make();
        int[] years = {0, 1, 2, CAST, 6, 6, 7, CAST, 11, 12, BAD};
        for (int t = 0; t < years.length; t++) {
            due("THING " + t, x.truth(0, t), years[t]);
        }
        x.put(0, 3, 0);
        due("a put that is refused", x.truth(0, 9), 12);
        x.cut(0, 10);
        due("a cut that is refused", x.truth(0, 9), 12);
        x.put(1, 1, 0);
        x.cut(1, 0);
        due("put and cut of the other", x.truth(0, 9), 12);
        x.rain(0, 0, 0);
        due("what was typed is a LAW", x.law(), 1);
        law(x, "*:4");
        due("other rain, another LAW", x.truth(0, 0), 0);
        x.cut(0, 9);
        due("cut", x.truth(0, 0), NOT);
        x.make(0);
        due("MADE again", x.truth(0, 0), 1);
        x.cut(0, 1);
        x.make(0);
        x.put(0, 0, 0);
        due("put on 12 is refused", x.truth(0, 0), 1);
        law(x, "a=2:1");
        x.make(0);
        x.put(0, 2, 0);
        due("put", x.truth(0, 0), NOT);
        x = States.FULL.make();
        x.put(0, 0, 0);
        due("a put that is FULL", x.truth(0, 0), 0);
    }

    private static void waysOfPlaces() {
        book.sentence("MOST of a CANDLE is 1 .. 4 (2 at first).");
        book.range("MOST", 1, 4, v -> new DripStone().most(0, v), BAD);
        due("at first", new DripStone().most(0, 1), 2);
        due("of the other", new DripStone().most(1, 1), 2);

        book.sentence("A WAY is a YEAR for each PLACE:");
        due("one PLACE", candle("s").ways(0), 24);
        due("a PLACE and a GAP", candle("sg").ways(0), 24);
        due("the first YEAR", judge(candle("s"), 0), NONE);
        due("the last YEAR", judge(candle("s"), 23), NONE);
        due("no YEAR ahead", judge(candle("s"), -1), 0);
        due("no YEAR behind", judge(candle("s"), 24), 0);
        book.sentence("it never goes back along the CANDLE,");
        due("stays", judge(candle("ss"), 5, 5), NONE);
        due("goes back by 1", judge(candle("ss"), 5, 4), 1);
        due("goes back over a GAP", judge(candle("sgs"), 5, 3), 2);
        due("WAYS of two", candle("ss").ways(0), 300);
        book.sentence("no YEAR has more than MOST PLACES;");
        for (int most = 1; most <= 4; most++) {
            DripStone x = candle("sdsds");
            x.most(0, most);
            due("MOST " + most, judge(x, 9, 9, 9, 9, 9), most);
            due("MOST " + most + " of the last YEAR", judge(x, 23, 23, 23, 23, 23), most);
        }
        int[] ways = {2024, 2576, 2600, 2600};
        for (int most = 1; most <= 4; most++) {
            DripStone x = candle("sss");
            x.most(0, most);
            due("WAYS of three by " + most, x.ways(0), ways[most - 1]);
        }
        DripStone x = candle("sssss");
        x.most(0, 4);
        // 5 of 24 with repetition, less those all of one YEAR
        due("WAYS of five by 4", x.ways(0), 98280 - 24);
        book.sentence("NEIGHBOURS with a GAP between are 2 YEARS or more apart;");
        due("0 apart", judge(candle("sgs"), 5, 5), 2);
        due("1 apart", judge(candle("sgs"), 5, 6), 2);
        due("2 apart", judge(candle("sgs"), 5, 7), NONE);
        due("1 apart over two GAPS", judge(candle("sggs"), 5, 6), 3);
        due("2 apart over two GAPS", judge(candle("sggs"), 5, 7), NONE);
        due("a GAP ahead of all and one behind all", judge(candle("gssg"), 5, 5), NONE);
        due("only NEIGHBOURS over it", judge(candle("ssgs"), 5, 6, 8), NONE);
        due("WAYS over a GAP", candle("sgs").ways(0), 253);
        due("WAYS over two GAPS", candle("sggs").ways(0), 253);
        book.sentence("and it is as STRETCHES and DATES tell.");
        x = candle("sss");
        x.stretch(0, 0, 0, 1, 0);
        x.date(0, 2, 9, 10, 0);
        due("as told", judge(x, 8, 9, 10), NONE);
        due("not as the STRETCH", judge(x, 7, 9, 10), 1);
        due("not as the DATE", judge(x, 8, 9, 11), 2);
    }

    private static void stretches() {
        book.sentence("STRETCHES (6 of a CANDLE), each from a PLACE to the same or a later one,");
        DripStone x = candle("sgd");
        things(x, 1, "s");
        for (int i = 1; i <= 6; i++) {
            due("STRETCH", x.stretch(0, 0, 0, 2, 0), i);
        }
        due("a 7th", x.stretch(0, 0, 0, 2, 0), FULL);
        due("the first of the other", x.stretch(1, 0, 0, 0, 0), 1);
        x = candle("sgd");
        due("to the same", x.stretch(0, 0, 0, 0, 0), 1);
        due("to a later one", x.stretch(0, 0, 0, 2, 0), 2);
        due("to an earlier one", x.stretch(0, 0, 2, 0, 0), BAD);
        due("from a GAP", x.stretch(0, 0, 1, 2, 0), CAST);
        due("to a GAP", x.stretch(0, 0, 0, 1, 0), CAST);
        book.sentence("of KINDS:");
        book.range("KIND", 1, 2, v -> candle("s").stretch(0, v, 0, 0, 1), BAD);
        book.range("KIND with n 0", 0, 0, v -> candle("s").stretch(0, v, 0, 0, 0), BAD);
        even();
        fast();
        stopped();
    }

    private static DripStone stretched(String kinds, int kind, int from, int to, int n) {
        DripStone x = candle(kinds);
        x.most(0, 4);
        x.stretch(0, kind, from, to, n);
        return x;
    }

    private static void even() {
        book.sentence("0 EVEN: NEIGHBOURS in it are at most 1 YEAR apart;");
        DripStone x = stretched("sssss", 0, 1, 3, 0);
        due("0 apart", judge(x, 5, 5, 5, 5, 6), NONE);
        due("1 apart", judge(x, 5, 6, 7, 8, 9), NONE);
        due("2 apart at its start", judge(x, 5, 6, 8, 8, 9), 2);
        due("2 apart at its end", judge(x, 5, 6, 7, 9, 9), 3);
        due("2 apart up to its start", judge(x, 5, 7, 7, 7, 7), NONE);
        due("2 apart from its end on", judge(x, 5, 5, 5, 5, 7), NONE);
        due("of one PLACE it binds nothing", judge(stretched("sss", 0, 1, 1, 0), 0, 9, 23), NONE);
        due("over a GAP there is no WAY", stretched("sgs", 0, 0, 2, 0).ways(0), 0);
        due("WAYS of two", stretched("ss", 0, 0, 1, 0).ways(0), 24 + 23);
        book.range("n of EVEN", 0, 0, v -> candle("s").stretch(0, 0, 0, 0, v), BAD);
    }

    private static void fast() {
        book.sentence("below it 1 FAST: so, too,");
        DripStone x = stretched("sss", 1, 0, 1, 1);
        due("0 apart", judge(x, 5, 5, 5), NONE);
        due("1 apart", judge(x, 5, 6, 9), NONE);
        due("2 apart", judge(x, 5, 7, 9), 1);
        book.sentence("and where the YEAR changes from one to its NEIGHBOUR (both in it)");
        x = stretched("sssss", 1, 1, 3, 2);
        due("a change ahead of it", judge(x, 5, 6, 6, 6, 6), NONE);
        due("a change at its start, after one", judge(x, 5, 6, 7, 7, 7), 2);
        due("a change at its end, after one", judge(x, 5, 6, 6, 7, 7), NONE);
        due("a change behind it, after one", judge(x, 5, 6, 6, 7, 8), NONE);
        due("a change at its end, after two changes", judge(x, 5, 5, 6, 7, 7), 3);
        book.sentence("the earlier YEAR has n PLACES (1 .. 4) or more;");
        book.range("n of FAST", 1, 4, v -> candle("s").stretch(0, 1, 0, 0, v), BAD);
        int[] told = {5, 5, 5, 5, 5, 5};
        for (int n = 1; n <= 4; n++) {
            for (int has = 1; has <= 4; has++) {
                for (int p = 0; p < 6; p++) {
                    told[p] = p < has ? 5 : 6;
                }
                x = stretched("ssssss".substring(0, has + 1), 1, 0, has, n);
                int want = has >= n ? NONE : has;
                due("FAST " + n + " after " + has, judge(x, java.util.Arrays.copyOf(told, has + 1)), want);
            }
        }
        due("PLACES ahead of the STRETCH are of the YEAR, too", judge(stretched("sss", 1, 1, 2, 2), 5, 5, 6), NONE);
        due("without them not", judge(stretched("sss", 1, 1, 2, 2), 4, 5, 6), 2);
        x = stretched("sss", 1, 0, 2, 3);
        x.most(0, 2);
        due("more than MOST: the YEAR can't change", x.ways(0), 0);
        x.most(0, 3);
        due("as many as MOST", x.ways(0), 24);
        x = stretched("sssss", 1, 0, 4, 4);
        due("four and one, by MOST 4", x.ways(0), 23);
    }

    private static void stopped() {
        book.sentence("2 STOPPED: NEIGHBOURS in it are n YEARS (1 .. 20) or more apart.");
        book.range("n of STOPPED", 1, 20, v -> candle("s").stretch(0, 2, 0, 0, v), BAD);
        DripStone x = stretched("sssss", 2, 1, 3, 4);
        due("4 apart", judge(x, 0, 0, 4, 8, 8), NONE);
        due("3 apart at its start", judge(x, 0, 0, 3, 8, 8), 2);
        due("3 apart at its end", judge(x, 0, 0, 4, 7, 8), 3);
        due("1: one YEAR", judge(stretched("ss", 2, 0, 1, 1), 5, 5), 1);
        due("1: the next", judge(stretched("ss", 2, 0, 1, 1), 5, 6), NONE);
        due("20: 19 apart", judge(stretched("ss", 2, 0, 1, 20), 2, 21), 1);
        due("20: 20 apart", judge(stretched("ss", 2, 0, 1, 20), 2, 22), NONE);
        due("20: WAYS", stretched("ss", 2, 0, 1, 20).ways(0), 4 + 3 + 2 + 1);
        due("1 over a GAP: 2 apart", judge(stretched("sgs", 2, 0, 2, 1), 5, 6), 2);
        due("3 over a GAP: 3 apart", judge(stretched("sgs", 2, 0, 2, 3), 5, 7), 2);
        due("of one PLACE it binds nothing", judge(stretched("sss", 2, 1, 1, 20), 5, 5, 5), NONE);
        x = stretched("ss", 2, 0, 1, 3);
        x.stretch(0, 2, 0, 1, 2);
        due("of two that with more binds", judge(x, 5, 7), 1);
        x.stretch(0, 0, 0, 1, 0);
        due("STOPPED and EVEN: no WAY", x.ways(0), 0);
        x = stretched("ss", 2, 0, 1, 1);
        x.stretch(0, 0, 0, 1, 0);
        due("STOPPED by 1 and EVEN: just 1", x.ways(0), 23);
    }

    private static void dates() {
        book.sentence("DATES 0 .. 7, as they come: of a PLACE of a CANDLE, from a YEAR to another,");
        DripStone x = candle("sg");
        things(x, 1, "d");
        for (int d = 0; d < 8; d++) {
            due("DATE", x.date(d % 2, 0, d, 23, 0), d);
        }
        due("an 8th", x.date(0, 0, 0, 23, 0), FULL);
        due("of a GAP", x.date(0, 1, 0, 23, 0), CAST);
        due("of CANDLE 0", x.ends(0, 0, 0), 6);
        due("of CANDLE 1", x.ends(1, 0, 0), 7);
        book.sentence("PLAIN (0): its YEAR is within;");
        int[][] plain = {{4, 0}, {5, NONE}, {8, NONE}, {9, 0}};
        int[][] dirty = {{4, 0}, {5, NONE}, {8, NONE}, {9, NONE}, {23, NONE}, {24, 0}};
        for (int[] told : plain) {
            due("PLAIN 5 to 8 in " + told[0], judge(dated(0), told[0]), told[1]);
        }
        x = candle("s");
        x.date(0, 0, 6, 6, 0);
        due("of one YEAR", x.ways(0), 1);
        book.sentence("below it DIRTY (1): its YEAR is that from which on, or later (its age is too old).");
        for (int[] told : dirty) {
            due("DIRTY from 5 on in " + told[0], judge(dated(1), told[0]), told[1]);
        }
        book.range("PLAIN, DIRTY", 0, 1, v -> candle("s").date(0, 0, 5, 8, v), BAD);
        x = candle("s");
        x.date(0, 0, 23, 23, 1);
        due("from the last YEAR on", x.ways(0), 1);
        book.sentence("One that is THROWN out for a reason (1 .. 9; 0: it is not) does not bind.");
        book.range("reason", 0, 9, v -> dated(0).throwOut(0, v), BAD);
        for (int why = 0; why <= 9; why++) {
            x = dated(0);
            x.throwOut(0, why);
            due("THROWN for " + why, judge(x, 4), why == 0 ? 0 : NONE);
            due("WAYS, THROWN for " + why, x.ways(0), why == 0 ? 4 : 24);
        }
    }

    private static DripStone dated(int dirty) {
        DripStone x = candle("s");
        x.date(0, 0, 5, 8, dirty);
        return x;
    }

    private static void countedWays() {
        book.sentence("WAYS are counted.");
        DripStone x = candle("ssssssssssss");
        x.most(0, 4);
        due("the most of all", x.ways(0), 834451800L - 24 * 2035800L + 276 * 300L);
        x.most(0, 1);
        due("twelve YEARS of 24", x.ways(0), 2704156);
        due("none", stretched("sgs", 0, 0, 2, 0).ways(0), 0);

        book.sentence("ODDS are exact fractions of all WAYS, in lowest terms.");
        x = candle("ss");
        due("24 of 300, above", x.odds(0, 0, 0, 0), 2);
        due("24 of 300, below", x.odds(0, 0, 0, 1), 25);
        due("1 of 300, above", x.odds(0, 1, 0, 0), 1);
        due("1 of 300, below", x.odds(0, 1, 0, 1), 300);
        x.date(0, 0, 5, 5, 0);
        due("all, above", x.odds(0, 0, 5, 0), 1);
        due("all, below", x.odds(0, 0, 5, 1), 1);
        due("none, above", x.odds(0, 0, 4, 0), 0);
        due("none, below", x.odds(0, 0, 4, 1), 1);

        book.sentence("NEXT: of PLACES that by whose YEAR, once known, the fewest WAYS are left at worst,");
        x = candle("ss");
        x.date(0, 0, 5, 6, 0);
        due("19 by the first, 2 by the second", x.next(0, 0) * 100 + x.next(0, 1), 102);
        book.sentence("of like ones the first.");
        due("24 by each", candle("ss").next(0, 0) * 100 + candle("ss").next(0, 1), 24);
        x = candle("sss");
        x.date(0, 0, 5, 5, 0);
        x.date(0, 1, 6, 7, 0);
        x.date(0, 2, 8, 9, 0);
        due("2 by the second and the third", x.next(0, 0) * 100 + x.next(0, 1), 102);
        mustGoAndLeans();
    }

    private static void mustGoAndLeans() {
        book.sentence("MUST GO: the fewest DATES (not THROWN) of a CANDLE that must be THROWN so that there is a WAY,");
        DripStone x = candle("s");
        x.date(0, 0, 5, 5, 0);
        due("one DATE, none must go", x.mustGo(0), 0);
        x.date(0, 0, 6, 6, 0);
        x.date(0, 0, 6, 6, 0);
        due("one of three", x.mustGo(0), 1);
        x.date(0, 0, 5, 5, 0);
        x.date(0, 0, 5, 5, 0);
        due("two of five", x.mustGo(0), 2 + 4);
        x.throwOut(1, 3);
        due("one of four that are not THROWN", x.mustGo(0), 4);
        x.throwOut(2, 3);
        due("none any more", x.mustGo(0), 0);
        book.sentence("of like ones the least bits.");
        x = candle("s");
        things(x, 1, "s");
        x.date(1, 0, 1, 1, 0);
        x.date(0, 0, 6, 6, 0);
        x.date(1, 0, 2, 2, 0);
        x.date(0, 0, 5, 5, 0);
        due("DATE 1, not DATE 3", x.mustGo(0), 2);
        due("DATE 0, not DATE 2", x.mustGo(1), 1);

        book.sentence("It LEANS on a DATE by as much as the least (the most) YEAR of a PLACE is other, if that is THROWN");
        x = candle("ss");
        x.date(0, 0, 5, 8, 0);
        due("the least of the first", x.leans(0, 0, 0), -5);
        due("the most of the first", x.leans(0, 0, 1), 23 - 8);
        due("the least of the second", x.leans(0, 1, 0), -5);
        due("the most of the second: not at all", x.leans(0, 1, 1), 0);
        book.sentence("(if it was: is not)");
        x.throwOut(0, 9);
        due("the least, THROWN", x.leans(0, 0, 0), -5);
        due("the most, THROWN", x.leans(0, 0, 1), 23 - 8);
    }

    private static void twoCandles() {
        book.sentence("ONE YEAR: the ODDS that a PLACE of CANDLE 0 and one of CANDLE 1 are of the same YEAR, "
            + "if both CANDLES go any of their WAYS by themselves.");
        DripStone x = candle("s");
        things(x, 1, "s");
        due("24 of 576, above", x.oneYear(0, 0, 0), 1);
        due("24 of 576, below", x.oneYear(0, 0, 1), 24);
        x.date(0, 0, 0, 5, 0);
        x.date(1, 0, 5, 9, 0);
        due("the one YEAR of both, above", x.oneYear(0, 0, 0), 1);
        due("the one YEAR of both, below", x.oneYear(0, 0, 1), 30);
        x.date(1, 0, 6, 9, 0);
        due("no YEAR of both, above", x.oneYear(0, 0, 0), 0);
        due("no YEAR of both, below", x.oneYear(0, 0, 1), 1);

        book.sentence("THE TIE: the pair with the greatest ODDS, of like ones the first of CANDLE 0, then of CANDLE 1.");
        x = candle("ss");
        things(x, 1, "ss");
        due("by the ends of both, the first", x.tie(0) * 10 + x.tie(1), 0);
        x.date(0, 1, 7, 7, 0);
        x.date(1, 1, 7, 7, 0);
        due("the second of both", x.tie(0) * 10 + x.tie(1), 11);
        x.date(0, 0, 7, 7, 0);
        due("of like ones the first of CANDLE 0", x.tie(0) * 10 + x.tie(1), 1);
        x.date(1, 0, 7, 7, 0);
        due("then of CANDLE 1", x.tie(0) * 10 + x.tie(1), 0);
        x = candle("ss");
        things(x, 1, "ss");
        x.date(0, 0, 3, 3, 0);
        x.date(0, 1, 5, 5, 0);
        x.date(1, 0, 3, 3, 0);
        x.date(1, 1, 5, 5, 0);
        due("the first of CANDLE 0 ahead of all", x.tie(0) * 10 + x.tie(1), 0);
    }

    private static void claimTexts() {
        book.sentence("A CLAIM is a TEXT: 1 or 2 ATOMS with & or | between;");
        due("none", claimOf(""), -20);
        due("one", claimOf("*@0-0#1"), 0);
        due("two with &", claimOf("*@0-0#1&*@0-0#1"), 0);
        due("two with |", claimOf("*@0-0#1|*@0-0#1"), 0);
        due("three with &", claimOf("*@0-0#1&*@0-0#1&*@0-0#1"), -35);
        due("three with |", claimOf("*@0-0#1|*@0-0#1|*@0-0#1"), -35);
        due("nothing behind &", claimOf("*@0-0#1&"), -28);
        due("nothing ahead of |", claimOf("|*@0-0#1"), -20);
        due("nothing between", claimOf("*@0-0#1*@0-0#1"), -27);
        due("another sign between", claimOf("*@0-0#1;*@0-0#1"), -27);
        book.sentence("an ATOM: perhaps !, then * (any PLACE), or w, < or >,");
        due("!", claimOf("!*@0-0#1"), 0);
        due("! of the second", claimOf("*@0-0#1|!*@0-0#1"), 0);
        due("! twice", claimOf("!!*@0-0#1"), -21);
        due("neither * nor w", claimOf("@0-0#1"), -20);
        due("a is of LAWS", claimOf("a<1@0-0#1"), -20);
        due("* and w", claimOf("*w<1@0-0#1"), -21);
        due("w<", claimOf("w<1@0-0#1"), 0);
        due("w>", claimOf("w>1@0-0#1"), 0);
        due("w=", claimOf("w=1@0-0#1"), -21);
        due("w alone", claimOf("w@0-0#1"), -21);
        book.sentence("perhaps -, a number (0 .. 50)");
        int[] good = {0, 50};
        for (int n : good) {
            due("number " + n, claimOf("w<" + n + "@0-0#1"), 0);
            due("number -" + n, claimOf("w<-" + n + "@0-0#1"), 0);
        }
        due("number 51", claimOf("w<51@0-0#1"), -22);
        due("number -51", claimOf("w<-51@0-0#1"), -22);
        due("two -", claimOf("w<--1@0-0#1"), -23);
        due("no number", claimOf("w<@0-0#1"), -22);
        due("no number behind -", claimOf("w<-@0-0#1"), -23);
        book.sentence("then @, a YEAR, -, a YEAR (no less), #, a number n (1 .. 12):");
        due("no @", claimOf("*0-0#1"), -21);
        due("the last YEAR", claimOf("*@23-23#1"), 0);
        due("24 is no YEAR", claimOf("*@24-24#1"), -22);
        due("all YEARS", claimOf("*@0-23#1"), 0);
        due("to 24", claimOf("*@0-24#1"), -24);
        due("no -", claimOf("*@0#1"), -23);
        due("one less", claimOf("*@9-8#1"), -24);
        due("the same", claimOf("*@9-9#1"), 0);
        due("one more", claimOf("*@9-10#1"), 0);
        due("no #", claimOf("*@0-0"), -25);
        due("n 0", claimOf("*@0-0#0"), -26);
        due("n 1", claimOf("*@0-0#1"), 0);
        due("n 12", claimOf("*@0-0#12"), 0);
        due("n 13", claimOf("*@0-0#13"), -26);
        due("no n", claimOf("*@0-0#"), -26);
    }

    /** Whether a CLAIM is so by the one WAY of STONES with these WEIGHTS in the YEARS 4, 4, 6, 9, .. */
    private static long so(String claim, int... weights) {
        DripStone x = stones(weights);
        int[] years = {4, 4, 6, 9, 20};
        for (int t = 0; t < weights.length; t++) {
            x.date(0, t, years[t], years[t], 0);
        }
        due("is a CLAIM: " + claim, claim(x, claim), 0);
        due("of one WAY the odds are whole", x.chance(0, 0, 1), 1);
        return x.chance(0, 0, 0);
    }

    private static void claimsHeld() {
        book.sentence("(STONES with a lesser, greater WEIGHT)");
        due("lesser", so("w<8@0-23#1", 7), 1);
        due("not lesser", so("w<8@0-23#1", 8), 0);
        due("greater", so("w>8@0-23#1", 9), 1);
        due("not greater", so("w>8@0-23#1", 8), 0);
        due("lesser than -8", so("w<-8@0-23#1", -9), 1);
        due("not lesser than -8", so("w<-8@0-23#1", -8), 0);
        due("greater than -50", so("w>-50@0-23#1", -49), 1);
        due("not greater than -50", so("w>-50@0-23#1", -50), 0);
        due("lesser than 50", so("w<50@0-23#1", 49), 1);
        due("not lesser than 50", so("w<50@0-23#1", 50), 0);
        due("lesser than -0", so("w<-0@0-23#1", -1), 1);
        due("not lesser than -0", so("w<-0@0-23#1", 0), 0);
        DripStone dirt = candle("d");
        claim(dirt, "w<50@0-23#1");
        claim(dirt, "w>-50@0-23#1");
        claim(dirt, "*@0-23#1");
        due("DIRT is no STONE", dirt.chance(0, 0, 0) + dirt.chance(1, 0, 0), 0);
        due("DIRT is a PLACE", dirt.chance(2, 0, 0), 1);

        book.sentence("n or more such PLACES are of these YEARS.");
        due("as many", so("*@4-6#3", 0, 0, 0, 0), 1);
        due("one too few", so("*@4-6#4", 0, 0, 0, 0), 0);
        due("one more than asked for", so("*@4-6#2", 0, 0, 0, 0), 1);
        due("from the YEAR on", so("*@4-4#2", 0, 0), 1);
        due("from a YEAR later on", so("*@5-23#1", 0, 0), 0);
        due("up to the YEAR", so("*@0-4#2", 0, 0), 1);
        due("up to a YEAR less", so("*@0-3#1", 0, 0), 0);
        due("! of it", so("!*@0-3#1", 0, 0), 1);
        due("! of what is", so("!*@4-4#2", 0, 0), 0);
        due("& of both", so("*@4-4#2&*@6-6#1", 0, 0, 0), 1);
        due("& of the first alone", so("*@4-4#2&*@6-6#2", 0, 0, 0), 0);
        due("& of the second alone", so("*@4-4#3&*@6-6#1", 0, 0, 0), 0);
        due("| of the first alone", so("*@4-4#2|*@6-6#2", 0, 0, 0), 1);
        due("| of the second alone", so("*@4-4#3|*@6-6#1", 0, 0, 0), 1);
        due("| of none", so("*@4-4#3|*@6-6#2", 0, 0, 0), 0);
        due("& and !", so("!w<0@4-4#2&w>0@9-9#1", -1, 1, 0, 1), 1);
        due("! is of its ATOM alone", so("!*@4-4#1&!*@6-6#1", 0, 0), 0);
        due("such PLACES alone", so("w>0@4-9#2", 1, 0, 0, 1), 1);
        due("such PLACES alone, not so", so("w>0@4-9#3", 1, 0, 0, 1), 0);
        due("such PLACES alone by the second ATOM", so("*@4-4#1&w>0@6-9#1", 1, 1, 0, 1), 1);
        due("such PLACES alone by the second ATOM, not so", so("*@4-4#1&w>0@6-9#1", 1, 1, 0, 0), 0);
        due("by the second ATOM DIRT is none", secondByDirt(), 0);
        DripStone twelve = candle("ssssssssssss");
        claim(twelve, "*@0-23#12");
        claim(twelve, "!*@0-23#12");
        due("twelve of twelve", twelve.chance(0, 0, 0), 1);
        due("not so", twelve.chance(1, 0, 0), 0);
        twelve.cut(0, 11);
        due("eleven", twelve.chance(0, 0, 0), 0);

        book.sentence("CLAIMS 0 .. 3, as they come.");
        DripStone x = candle("s");
        for (int i = 0; i < 4; i++) {
            due("CLAIM", claim(x, "*@0-" + i + "#1"), i);
        }
        due("a 4th", claim(x, "*@0-0#1"), FULL);
        book.range("claim", 0, 3, v -> States.FULL.make().chance(v, 0, 0), BAD);
        book.sentence("CHANCE of one by a CANDLE: the ODDS that it is so.");
        long[] below = {24, 12, 8, 6};
        for (int i = 0; i < 4; i++) {
            due("CHANCE of " + i, x.chance(i, 0, 0) * 100 + x.chance(i, 0, 1), 100 + below[i]);
        }
        lookedFor();
    }

    private static long secondByDirt() {
        DripStone x = candle("sd");
        claim(x, "*@0-23#1&w<50@0-23#2");
        return x.chance(0, 0, 0);
    }

    private static void lookedFor() {
        book.sentence("LOOKED for: by all shifts (its YEARS, of all ATOMS, so many later, as far as all are YEARS; 0, too):");
        due("one YEAR: all", shifts("*@0-0#1"), 24);
        due("the last YEAR: 0 alone", shifts("*@23-23#1"), 1);
        due("up to the last YEAR", shifts("*@0-23#1"), 1);
        due("up to the last but one", shifts("*@0-22#1"), 2);
        due("the later of two", shifts("*@0-0#1&*@3-21#1"), 3);
        due("the later of two is the first", shifts("*@3-20#1|*@0-2#1"), 4);
        book.sentence("how many have ODDS of p / q or more.");
        DripStone x = candle("s");
        x.date(0, 0, 5, 7, 0);
        claim(x, "*@0-0#1");
        claim(x, "*@0-1#1");
        due("a third: just so", x.looked(0, 0, 1, 3, 1), 3);
        due("a little more", x.looked(0, 0, 334, 1000, 1), 0);
        due("a little less", x.looked(0, 0, 333, 1000, 1), 3);
        due("two thirds: just so", x.looked(1, 0, 2, 3, 1), 2);
        due("one third by two YEARS", x.looked(1, 0, 1, 3, 1), 4);
        due("0 is always", x.looked(1, 0, 0, 1, 1), 23);
        due("1 is never", x.looked(1, 0, 1, 1, 1), 0);
        DripStone last = candle("s");
        last.date(0, 0, 23, 23, 0);
        claim(last, "*@0-0#1");
        claim(last, "*@23-23#1");
        due("by the last shift", last.looked(0, 0, 1, 1, 1), 1);
        due("by the shift 0", last.looked(1, 0, 1, 1, 1), 1);
    }

    private static int shifts(String claim) {
        DripStone x = candle("s");
        claim(x, claim);
        return x.looked(0, 0, 1, 2, 0);
    }

    private static void faults() {
        book.sentence("FAULTS of TEXTS (LAWS, CLAIMS): -20 less the place of the first byte");
        due("the first byte of a LAW", lawOf("x"), -20);
        due("the first byte of a CLAIM", claimOf("x"), -20);
        due("the second", lawOf("*x"), -21);
        due("of two the first", lawOf("a<x:x"), -22);
        StringBuilder longest = new StringBuilder("*:1");
        while (longest.length() < 79) {
            longest.append(' ');
        }
        due("the 80th of a LAW", lawOf(longest + "x"), -20 - 79);
        due("a LAW of 80", lawOf(longest + " "), 1);
        StringBuilder claim = new StringBuilder("*@0-0#1");
        while (claim.length() < 79) {
            claim.append(' ');
        }
        due("the 80th of a CLAIM", claimOf(claim + "x"), -20 - 79);
        due("a CLAIM of 80", claimOf(claim + " "), 0);
        book.sentence("(blanks do not count, but end a number)");
        due("blanks around all of a LAW", lawOf(" a < 9 & h = 0 : 1 ; * : 0 "), 2);
        due("blanks around all of a CLAIM", claimOf(" ! w < - 9 @ 0 - 23 # 12 & * @ 1 - 2 # 1 "), 0);
        due("a number of a LAW that a blank ends", lawOf("a<1 0:1"), -24);
        due("a number of a CLAIM that a blank ends", claimOf("*@1 0-12#1"), -24);
        due("n that a blank ends", claimOf("*@0-0#1 2"), -28);
        due("a digit and, behind a blank, another", lawOf("*:1 1"), -24);
        due("the place has blanks in it", lawOf("  x"), -22);
        due("a blank behind - is none of the number", claimOf("w<- 9@0-0#1"), 0);
        book.sentence("that can't stand there (the end: how many bytes there are);");
        due("the end of nothing", lawOf(""), -20);
        due("the end of a LAW", lawOf("a<1"), -23);
        due("the end of a CLAIM", claimOf("*@0-0#"), -26);
        due("the end behind blanks", lawOf("a<1  "), -25);
        due("the end behind blanks of a CLAIM", claimOf("*@0-   "), -27);
        due("blanks alone", claimOf("   "), -23);
        book.sentence("of a number that may not be its first byte (its -, if it has one).");
        due("of two bytes", claimOf("w<99@0-0#1"), -22);
        due("of three bytes", lawOf("a<100:1"), -22);
        due("of many bytes", lawOf("a<4294967300:1"), -22);
        due("of very many bytes", lawOf("a<18446744073709551616:1"), -22);
        due("behind blanks", lawOf("a<  100:1"), -24);
        due("its -", claimOf("w<-51@0-0#1"), -22);
        due("its - behind blanks", claimOf("w<  -  51@0-0#1"), -24);
        due("a YEAR that is less", claimOf("*@10- 9#1"), -26);
        due("a YEAR that is none", claimOf("*@0- 24#1"), -25);
        due("the number ahead of what stands behind it", lawOf("a<100x"), -22);
    }

    private static void causes() {
        book.sentence("CAUSES 0 .. 4, as they come: each makes any change from LOW to HIGH (-30 .. 30).");
        DripStone x = new DripStone();
        for (int i = 0; i < 5; i++) {
            due("CAUSE", x.cause(0, i), i);
        }
        due("a 5th", x.cause(0, 0), FULL);
        book.range("LOW", -30, 30, v -> new DripStone().cause(v, 30), BAD);
        book.range("HIGH", -30, 30, v -> new DripStone().cause(-30, v), BAD);
        due("LOW is HIGH", new DripStone().cause(7, 7), 0);
        due("LOW above HIGH", new DripStone().cause(8, 7), BAD);
        book.sentence("A set of CAUSES (not none) can SAY a change, "
            + "if that is no less than their LOWS, no more than their HIGHS together.");
        due("no CAUSE, no change", stones(3, 3).says(0, 0, 1, 0), 0);
        int[][] single = {{1, 0}, {2, 1}, {5, 1}, {6, 0}};
        for (int[] s : single) {
            x = stones(0, s[0]);
            x.cause(2, 5);
            due("2 to 5 by " + s[0], x.says(0, 0, 1, 0), s[1]);
        }
        int[][] both = {{-5, 0}, {-4, 1}, {-3, 1}, {8, 1}, {9, 1}, {10, 0}};
        for (int[] s : both) {
            x = stones(0, s[0]);
            x.cause(-2, 4);
            x.cause(-2, 5);
            due("both by " + s[0], x.says(0, 0, 1, 2) == 3 ? 1 : 0, s[1]);
        }
        x = stones(-50, 50);
        for (int i = 0; i < 4; i++) {
            x.cause(25, 25);
        }
        due("the most: all four", x.says(0, 0, 1, 1), 15);
        x.cause(0, 0);
        due("or all five", x.says(0, 0, 1, 0), 2);
        x = stones(50, -50);
        for (int i = 0; i < 4; i++) {
            x.cause(-30, -24);
        }
        due("the least: all four", x.says(0, 0, 1, 1), 15);
    }

    private static void sheets() {
        book.sentence("sheets 0 .. 3: nothing (at first),");
        book.range("sheet", 0, 3, v -> new DripStone().sheet(v, 0, 1), BAD);
        for (int s = 0; s < 4; s++) {
            due("nothing at first", new DripStone().drop(s), NULL);
        }
        book.sentence("or a row of a LANE: 0 bytes, 1 shorts, 2 ints, of 0 to 24 items.");
        book.range("lane", 0, 2, v -> new DripStone().sheet(0, v, 1), BAD);
        book.range("items", 0, 24, v -> Math.max(-1, new DripStone().sheet(0, 0, v)) == -1 ? -1 : 1, BAD);
        DripStone x = new DripStone();
        x.sheet(0, 0, 0);
        due("a row of none is not nothing", x.item(0, 0, 0, 1), INDEX);
        x.sheet(0, 0, 24);
        due("the last item", x.item(0, 0, 23, 1), 1);
        due("one behind it", x.item(0, 0, 24, 1), INDEX);
        // a LANE, an item, and what is kept of it as far as a WEIGHT can show it
        int[][] kept = {{0, 20, 20}, {0, -20, -20}, {0, 255, -1}, {0, 256, 0}, {0, 236, -20}, {0, 235, NOT}, {0, 127, NOT},
            {0, 128, NOT}, {0, MAX, -1}, {0, MIN, 0}, {1, 255, NOT}, {1, 256, NOT}, {1, 65535, -1}, {1, 65536, 0},
            {1, 65516, -20}, {1, 65515, NOT}, {1, MAX, -1}, {1, MIN, 0}, {2, 65535, NOT}, {2, 65536, NOT}, {2, MAX, NOT},
            {2, MIN, NOT}, {2, -20, -20}};
        for (int[] k : kept) {
            x = new DripStone();
            fill(x, 3, k[0], k[1]);
            int taken = x.rains(1, 3, k[0], 0, 1);
            due("LANE " + k[0] + ", item " + k[1], taken == 1 ? x.rain(0, 1, 0) : taken, k[2]);
        }
    }
}
