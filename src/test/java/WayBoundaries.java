/** Every sentence of the promises 21 to 29: ways, their ends and odds, dates that lean, told ways. */
public final class WayBoundaries extends Setup {
    public static void main(String[] args) throws Exception {
        book = new Book("Promise 21:", "Promise 30:");
        ways();
        ends();
        odds();
        span();
        apart();
        next();
        mustGo();
        leans();
        judge();
        judgeRefused();
        book.close();
    }

    /** PLACES that each have a DATE of one YEAR, so that there is one WAY. */
    private static DripStone fixed(int... years) {
        DripStone x = new DripStone();
        for (int t = 0; t < years.length; t++) {
            x.put(0, 0, 0);
            x.date(0, t, years[t], years[t], 0);
        }
        return x;
    }

    /** A CANDLE of a STONE, a GAP and a STONE for which there is no WAY. */
    private static DripStone stuck() {
        DripStone x = candle("sgs");
        x.date(0, 0, 5, 9, 0);
        x.date(0, 2, 0, 6, 0);
        return x;
    }

    private static void ways() {
        book.promise(21);
        book.sentence("WAYS of a CANDLE.");
        due("one PLACE", candle("d").ways(0), 24);
        due("two", candle("sd").ways(0), 300);
        due("one WAY", fixed(3, 3, 9).ways(0), 1);
        due("no WAY", stuck().ways(0), 0);
        DripStone x = stuck();
        x.throwOut(0, 1);
        due("5 by the YEARS 2 .. 6", x.ways(0), 1 + 2 + 3 + 4 + 5);
        things(x, 1, "s");
        due("the other", x.ways(1), 24);
        book.sentence("BAD; NOT: it has no PLACE.");
        book.range("candle", 0, 1, v -> new DripStone().ways(v), BAD);
        due("nothing", new DripStone().ways(0), NOT);
        due("a GAP", candle("g").ways(0), NOT);
        due("twelve GAPS", candle("gggggggggggg").ways(0), NOT);
        due("a PLACE on the other", candle("s").ways(1), NOT);
        due("a GAP and a PLACE", candle("gs").ways(0), 24);
        book.refused("no PLACE", States.STUCK, y -> y.ways(1), NOT);
    }

    private static void ends() {
        book.promise(22);
        book.sentence("The least (0), the most (1) YEAR of a PLACE over all WAYS.");
        book.range("what", 0, 1, v -> candle("s").ends(0, 0, v), BAD);
        DripStone x = candle("sgsd");
        ends(x, 0, 0, 21);
        ends(x, 2, 2, 23);
        ends(x, 3, 2, 23);
        x.date(0, 3, 9, 12, 0);
        ends(x, 0, 0, 10);
        ends(x, 2, 2, 12);
        ends(x, 3, 9, 12);
        x = fixed(0, 23);
        ends(x, 0, 0, 0);
        ends(x, 1, 23, 23);
        x = candle("sssss");
        ends(x, 0, 0, 21);
        ends(x, 4, 2, 23);
        x.most(0, 4);
        ends(x, 0, 0, 22);
        ends(x, 4, 1, 23);
        x = stretched(0, 0);
        ends(x, 0, 0, 22);
        ends(x, 1, 0, 23);
        ends(x, 2, 1, 23);
        x = stretched(1, 2);
        ends(x, 0, 0, 22);
        ends(x, 1, 0, 22);
        ends(x, 2, 1, 23);
        book.sentence("BAD; CAST; NONE: no WAY.");
        book.range("candle", 0, 1, v -> States.RICH.make().ends(v, 0, 0), BAD);
        book.range("thing", 0, 1, v -> candle("ss").ends(0, v, 0), BAD);
        due("nothing there", new DripStone().ends(0, 0, 0), BAD);
        due("a GAP", candle("sg").ends(0, 1, 0), CAST);
        due("no WAY", stuck().ends(0, 0, 1), NONE);
        due("BAD and CAST", stuck().ends(0, 1, 2), BAD);
        due("BAD and NONE", stuck().ends(0, 3, 0), BAD);
        due("CAST and NONE", stuck().ends(0, 1, 0), CAST);
        book.refused("CAST", States.RICH, y -> y.ends(0, 3, 0), CAST);
        book.refused("NONE", States.STUCK, y -> y.ends(0, 0, 0), NONE);
    }

    /** Three STONES with a STRETCH over all of them. */
    private static DripStone stretched(int kind, int n) {
        DripStone x = candle("sss");
        x.stretch(0, kind, 0, 2, n);
        return x;
    }

    private static void ends(DripStone x, int thing, int least, int most) {
        due("the least YEAR of THING " + thing, x.ends(0, thing, 0), least);
        due("the most YEAR of THING " + thing, x.ends(0, thing, 1), most);
    }

    private static void odds() {
        book.promise(23);
        book.sentence("ODDS that a PLACE is of a YEAR: above (0), below (1).");
        book.range("what", 0, 1, v -> candle("s").odds(0, 0, 0, v), BAD);
        DripStone x = candle("ss");
        int[][] odds = {{0, 0, 2, 25}, {0, 23, 1, 300}, {1, 0, 1, 300}, {1, 23, 2, 25}, {0, 12, 1, 25}, {1, 12, 13, 300}};
        allOdds(x, odds);
        // EVEN: 23 and 23 with two in one YEAR, 22 with three YEARS
        int[][] even = {{0, 0, 3, 68}, {0, 21, 3, 68}, {0, 22, 1, 34}, {0, 23, 0, 1}, {1, 0, 1, 68}, {1, 1, 3, 68}, {1, 23, 1, 68},
            {2, 0, 0, 1}, {2, 1, 1, 34}, {2, 2, 3, 68}, {2, 23, 3, 68}};
        allOdds(stretched(0, 0), even);
        // FAST by 2: two and one; with MOST 3 three, too
        int[][] fast = {{0, 0, 1, 23}, {0, 22, 1, 23}, {0, 23, 0, 1}, {1, 22, 1, 23}, {1, 23, 0, 1}, {2, 0, 0, 1}, {2, 1, 1, 23}};
        allOdds(stretched(1, 2), fast);
        int[][] three = {{0, 0, 2, 47}, {0, 22, 2, 47}, {0, 23, 1, 47}, {2, 0, 1, 47}, {2, 1, 2, 47}, {2, 23, 2, 47}};
        x = stretched(1, 2);
        x.most(0, 3);
        allOdds(x, three);
        x = fixed(5);
        for (int year = 4; year <= 6; year++) {
            due("of a sure one, above, in " + year, x.odds(0, 0, year, 0), year == 5 ? 1 : 0);
            due("of a sure one, below, in " + year, x.odds(0, 0, year, 1), 1);
        }
        book.sentence("BAD; CAST; NONE.");
        book.range("candle", 0, 1, v -> States.RICH.make().odds(v, 0, 0, 0), BAD);
        book.range("thing", 0, 1, v -> candle("ss").odds(0, v, 0, 0), BAD);
        book.range("year", 0, 23, v -> candle("ss").odds(0, 1, v, 0), BAD);
        due("nothing there", new DripStone().odds(0, 0, 0, 0), BAD);
        due("a GAP", candle("sg").odds(0, 1, 0, 0), CAST);
        due("no WAY, above", stuck().odds(0, 0, 5, 0), NONE);
        due("no WAY, below", stuck().odds(0, 0, 5, 1), NONE);
        due("BAD and CAST", stuck().odds(0, 1, 24, 0), BAD);
        due("BAD and NONE", stuck().odds(0, 0, -1, 0), BAD);
        due("CAST and NONE", stuck().odds(0, 1, 0, 0), CAST);
        book.refused("NONE", States.STUCK, y -> y.odds(0, 0, 5, 0), NONE);
    }

    /** A THING, a YEAR, and its ODDS. */
    private static void allOdds(DripStone x, int[][] odds) {
        for (int[] o : odds) {
            due("above of " + o[0] + " in " + o[1], x.odds(0, o[0], o[1], 0), o[2]);
            due("below of " + o[0] + " in " + o[1], x.odds(0, o[0], o[1], 1), o[3]);
        }
    }

    private static void span() {
        book.promise(24);
        book.sentence("By how many YEARS at least (0), at most (1) a PLACE is later than an earlier one over all WAYS.");
        book.range("what", 0, 1, v -> candle("ss").span(0, 0, 1, v), BAD);
        spans(candle("ss"), 0, 1, 0, 23);
        spans(candle("sgs"), 0, 2, 2, 23);
        spans(candle("sgsgs"), 0, 4, 4, 23);
        spans(candle("sgsgs"), 0, 2, 2, 21);
        spans(candle("sgsgs"), 2, 4, 2, 21);
        spans(candle("sss"), 0, 2, 1, 23);
        spans(fixed(0, 23), 0, 1, 23, 23);
        spans(fixed(7, 7), 0, 1, 0, 0);
        DripStone x = candle("ssss");
        x.stretch(0, 0, 0, 3, 0);
        spans(x, 0, 3, 1, 3);
        x.date(0, 3, 0, 1, 0);
        spans(x, 0, 3, 1, 1);
        spans(x, 1, 2, 1, 1);
        book.sentence("BAD: also not behind it; CAST; NONE.");
        book.range("candle", 0, 1, v -> States.FULL.make().span(v, 0, 1, 0), BAD);
        book.range("early", 0, 1, v -> candle("sss").span(0, v, 2, 0), BAD);
        book.range("late", 1, 2, v -> candle("sss").span(0, 0, v, 0), BAD);
        due("the same", candle("sss").span(0, 1, 1, 0), BAD);
        due("ahead of it", candle("sss").span(0, 2, 1, 0), BAD);
        due("the same GAP", candle("gs").span(0, 0, 0, 0), BAD);
        due("early a GAP", candle("gs").span(0, 0, 1, 0), CAST);
        due("late a GAP", candle("sg").span(0, 0, 1, 0), CAST);
        due("no WAY, at least", stuck().span(0, 0, 2, 0), NONE);
        due("no WAY, at most", stuck().span(0, 0, 2, 1), NONE);
        due("BAD and CAST", stuck().span(0, 0, 1, 2), BAD);
        due("BAD and NONE", stuck().span(0, 2, 0, 0), BAD);
        due("CAST and NONE", stuck().span(0, 1, 2, 0), CAST);
        book.refused("NONE", States.STUCK, y -> y.span(0, 0, 2, 0), NONE);
    }

    private static void spans(DripStone x, int early, int late, int least, int most) {
        due("from " + early + " to " + late + " at least", x.span(0, early, late, 0), least);
        due("from " + early + " to " + late + " at most", x.span(0, early, late, 1), most);
    }

    private static void apart() {
        book.promise(25);
        book.sentence("ODDS that they are n YEARS (0 .. 23) or more apart.");
        book.range("n", 0, 23, v -> candle("ss").apart(0, 0, 1, v, 0), BAD);
        book.range("what", 0, 1, v -> candle("ss").apart(0, 0, 1, 0, v), BAD);
        DripStone x = candle("ss");
        int[][] odds = {{0, 1, 1}, {1, 23, 25}, {2, 253, 300}, {22, 1, 100}, {23, 1, 300}};
        for (int[] o : odds) {
            due("above by " + o[0], x.apart(0, 0, 1, o[0], 0), o[1]);
            due("below by " + o[0], x.apart(0, 0, 1, o[0], 1), o[2]);
        }
        x = fixed(4, 9);
        for (int n = 4; n <= 6; n++) {
            due("5 apart, above by " + n, x.apart(0, 0, 1, n, 0), n <= 5 ? 1 : 0);
            due("5 apart, below by " + n, x.apart(0, 0, 1, n, 1), 1);
        }
        x = candle("sds");
        x.most(0, 1);
        due("over one between, 2 or more", x.apart(0, 0, 2, 2, 0), 1);
        // 22 of 2024 WAYS have them just 2 apart
        due("over one between, 3 or more, above", x.apart(0, 0, 2, 3, 0), 91);
        due("over one between, 3 or more, below", x.apart(0, 0, 2, 3, 1), 92);
        book.sentence("BAD; CAST; NONE.");
        book.range("candle", 0, 1, v -> States.FULL.make().apart(v, 0, 1, 0, 0), BAD);
        book.range("early", 0, 1, v -> candle("sss").apart(0, v, 2, 0, 0), BAD);
        book.range("late", 1, 2, v -> candle("sss").apart(0, 0, v, 0, 0), BAD);
        due("the same", candle("sss").apart(0, 1, 1, 0, 0), BAD);
        due("ahead of it", candle("sss").apart(0, 2, 1, 0, 0), BAD);
        due("early a GAP", candle("gs").apart(0, 0, 1, 0, 0), CAST);
        due("late a GAP", candle("sg").apart(0, 0, 1, 0, 0), CAST);
        due("no WAY, above", stuck().apart(0, 0, 2, 0, 0), NONE);
        due("no WAY, below", stuck().apart(0, 0, 2, 0, 1), NONE);
        due("BAD and CAST", stuck().apart(0, 0, 1, 24, 0), BAD);
        due("BAD and NONE", stuck().apart(0, 0, 2, -1, 0), BAD);
        due("CAST and NONE", stuck().apart(0, 0, 1, 0, 0), CAST);
        book.refused("NONE", States.STUCK, y -> y.apart(0, 0, 2, 1, 0), NONE);
    }

    private static void next() {
        book.promise(26);
        book.sentence("NEXT: the THING (0), WAYS left at worst (1).");
        book.range("what", 0, 1, v -> candle("s").next(0, v), BAD);
        nexts(candle("s"), 0, 1);
        nexts(candle("gs"), 1, 1);
        nexts(fixed(3, 4, 5), 0, 1);
        DripStone x = candle("ss");
        x.date(0, 0, 3, 3, 0);
        // the first is known: 21 WAYS are left by it, 1 by the second
        nexts(x, 1, 1);
        x = candle("sgs");
        x.date(0, 2, 2, 3, 0);
        // 0 and 2, 0 and 3, 1 and 3: each PLACE leaves 2 at worst
        nexts(x, 0, 2);
        x.date(0, 2, 3, 3, 0);
        nexts(x, 0, 1);
        x = candle("sgs");
        x.date(0, 0, 0, 1, 0);
        x.date(0, 2, 2, 4, 0);
        // 0 with 2, 3, 4 and 1 with 3, 4: 3 by the first, 2 by the THING 2
        nexts(x, 2, 2);
        x = candle("sss");
        x.stretch(0, 0, 0, 1, 0);
        // of 552 WAYS 46 by the first or the third, 45 by the second
        nexts(x, 1, 45);
        book.sentence("BAD; NOT: no PLACE; NONE: no WAY.");
        book.range("candle", 0, 1, v -> candle("s").next(v, 0), BAD);
        due("nothing", new DripStone().next(0, 0), NOT);
        due("a GAP", candle("g").next(0, 1), NOT);
        due("no WAY", stuck().next(0, 0), NONE);
        due("no WAY", stuck().next(0, 1), NONE);
        due("BAD and NOT", new DripStone().next(0, 2), BAD);
        due("BAD and NONE", stuck().next(0, -1), BAD);
        book.refused("NOT", States.STUCK, y -> y.next(1, 0), NOT);
        book.refused("NONE", States.STUCK, y -> y.next(0, 0), NONE);
    }

    private static void nexts(DripStone x, int thing, int worst) {
        due("the THING", x.next(0, 0), thing);
        due("at worst", x.next(0, 1), worst);
    }

    private static void mustGo() {
        book.promise(27);
        book.sentence("MUST GO, as bits of DATES.");
        due("no DATE", candle("s").mustGo(0), 0);
        due("one DATE", fixed(3).mustGo(0), 0);
        DripStone x = fixed(9, 8);
        due("the first of two", x.mustGo(0), 1);
        x.throwOut(0, 1);
        due("none any more", x.mustGo(0), 0);
        x.throwOut(0, 0);
        x.throwOut(1, 1);
        due("nor by the other", x.mustGo(0), 0);
        x = fixed(7, 6, 5, 4, 3, 2, 1, 0);
        // by MOST 2 the sixth can be of YEAR 2, the seventh not of YEAR 1
        due("seven of eight: all but the sixth", x.mustGo(0), 255 - 32);
        x.most(0, 4);
        due("seven of eight: all but the seventh", x.mustGo(0), 255 - 64);
        x = fixed(0, 1, 2, 3, 4, 5, 6, 5);
        due("the last, as MOST is 2", x.mustGo(0), 128);
        x.most(0, 3);
        due("one of the last two", x.mustGo(0), 64);
        x = fixed(5, 4, 4);
        due("the first alone, not both behind it", x.mustGo(0), 1);
        x = fixed(5, 5, 4);
        due("the last alone, not both ahead of it", x.mustGo(0), 4);
        x = candle("s");
        things(x, 1, "s");
        for (int d = 0; d < 8; d++) {
            x.date(d % 2, 0, d / 2, d / 2, 0);
        }
        due("of CANDLE 0", x.mustGo(0), 1 + 4 + 16);
        due("of CANDLE 1", x.mustGo(1), 2 + 8 + 32);
        due("they are not THROWN by that", x.count(1), 0);
        x = candle("s");
        x.date(0, 0, 4, 9, 0);
        x.date(0, 0, 9, 9, 1);
        due("just together", x.mustGo(0), 0);
        x.date(0, 0, 10, 10, 1);
        due("just not", x.mustGo(0), 1);
        book.sentence("BAD; NOT: no PLACE; NONE: there is no WAY without all DATES.");
        book.range("candle", 0, 1, v -> new DripStone().mustGo(v), BAD);
        due("nothing", new DripStone().mustGo(0), NOT);
        due("a GAP", candle("g").mustGo(0), NOT);
        x = candle("sgs");
        x.stretch(0, 0, 0, 2, 0);
        due("no WAY and no DATE", x.mustGo(0), NONE);
        x.date(0, 0, 5, 5, 0);
        due("no WAY with a DATE or without", x.mustGo(0), NONE);
        x = candle("sgs");
        x.date(0, 2, 0, 1, 0);
        due("a DATE by which alone there is no WAY", x.mustGo(0), 1);
        x.date(0, 2, 0, 2, 0);
        due("with one that may stay", x.mustGo(0), 1);
        x = candle("sgsgsgsgsgs");
        x.stretch(0, 2, 0, 2, 14);
        due("a WAY", x.mustGo(0), 0);
        x.stretch(0, 2, 2, 4, 3);
        due("a WAY still: 14 and 3 and 6", x.ways(0), 1);
        x.stretch(0, 2, 2, 4, 4);
        due("no WAY by one YEAR", x.mustGo(0), NONE);
        book.refused("NOT", States.STUCK, y -> y.mustGo(1), NOT);
    }

    private static void leans() {
        book.promise(28);
        book.sentence("By how much it LEANS on a DATE (its CANDLE's PLACE, the least (0), the most (1) YEAR; "
            + "without the DATE less with it).");
        book.range("what", 0, 1, v -> fixed(3).leans(0, 0, v), -1001);
        DripStone x = fixed(5, 9);
        due("the least: 0 less 5", x.leans(0, 0, 0), -5);
        due("the most: 9 less 5", x.leans(0, 0, 1), 4);
        due("of the other, the least: 9 less 9", x.leans(0, 1, 0), 0);
        due("the least of the second: 5 less 9", x.leans(1, 1, 0), -4);
        due("the most of the second: 23 less 9", x.leans(1, 1, 1), 14);
        due("of the first, the most: 5 less 5", x.leans(1, 0, 1), 0);
        x.date(0, 0, 0, 23, 0);
        due("a DATE that binds nothing", x.leans(2, 0, 0), 0);
        due("a DATE that binds nothing", x.leans(2, 1, 1), 0);
        x = fixed(0);
        due("from 0 to 23", x.leans(0, 0, 1), 23);
        due("not at all", x.leans(0, 0, 0), 0);
        x = fixed(23);
        due("from 23 to 0", x.leans(0, 0, 0), -23);
        x = new DripStone();
        things(x, 1, "ss");
        x.date(1, 1, 3, 4, 0);
        due("its CANDLE's PLACE", x.leans(0, 0, 1), 23 - 4);
        x.throwOut(0, 5);
        due("THROWN: as if it was not", x.leans(0, 0, 1), 23 - 4);
        due("it stays THROWN", x.throwOut(0, 5), 5);
        leansRefused();
    }

    private static void leansRefused() {
        book.sentence("BAD less 1000; CAST less that; NONE less that: there is no WAY with it, or without.");
        due("no DATE", candle("s").leans(0, 0, 0), -1001);
        book.range("date", 0, 1, v -> fixed(3, 4).leans(v, 0, 0), -1001);
        book.range("thing", 0, 1, v -> fixed(3, 4).leans(0, v, 0), -1001);
        DripStone x = new DripStone();
        things(x, 0, "sss");
        things(x, 1, "s");
        x.date(1, 0, 3, 3, 0);
        due("a THING that its CANDLE does not have", x.leans(0, 1, 0), -1001);
        due("what 2", x.leans(0, 0, 2), -1001);
        due("what -1", x.leans(0, 0, -1), -1001);
        due("a GAP", stuck().leans(0, 1, 0), -1012);
        due("BAD and CAST", stuck().leans(0, 1, 2), -1001);
        due("CAST and NONE", stuck().leans(0, 1, 1), -1012);
        due("no WAY with it", stuck().leans(0, 0, 0), -1004);
        due("no WAY with it", stuck().leans(1, 2, 1), -1004);
        x = fixed(5);
        x.date(0, 0, 6, 6, 0);
        x.date(0, 0, 5, 6, 0);
        due("no WAY with it or without", x.leans(2, 0, 0), -1004);
        x.throwOut(0, 1);
        due("a WAY without, none with", x.leans(0, 0, 0), -1004);
        due("a WAY with and without", x.leans(2, 0, 0), 0);
        due("a WAY with and without, THROWN", stuckBut(0).leans(1, 2, 1), 23 - 6);
        book.refused("NONE", States.STUCK, y -> y.leans(0, 2, 1), -1004);
        book.refused("CAST", States.RICH, y -> y.leans(0, 3, 1), -1012);
    }

    private static DripStone stuckBut(int date) {
        DripStone x = stuck();
        x.throwOut(date, 1);
        return x;
    }

    private static void judge() {
        book.promise(29);
        book.sentence("A told WAY: items of a SHEET, taken as a row of a LANE, from one on, one for each PLACE:");
        DripStone x = candle("sgs");
        fill(x, 0, 2, 99, 4, 6, 99);
        due("from 1 on", x.judge(0, 0, 2, 1), NONE);
        due("from 0 on", x.judge(0, 0, 2, 0), 0);
        due("from 2 on", x.judge(0, 0, 2, 2), 2);
        for (int lane = 0; lane < 3; lane++) {
            fill(x, 3, lane, 4, 5);
            due("LANE " + lane, x.judge(0, 3, lane, 0), 2);
        }
        due("a GAP has none", judge(candle("gsgg"), 4), NONE);
        due("of the other", judgeOfOther(), 3);
        book.sentence("the first THING whose YEAR can't be so behind those ahead of it");
        due("the first of two", judge(candle("ssss"), 5, 4, 3, 2), 1);
        due("by the one ahead, not by the first", judge(candle("ssss"), 5, 6, 5, 6), 2);
        due("none behind it is looked at", judge(candle("ssgs"), 24, 4, 3), 0);
        due("the THING, not the PLACE", judge(candle("gsgs"), 5, 6), 3);
        DripStone late = candle("ss");
        late.date(0, 1, 3, 3, 0);
        due("that one behind can't be then is told of that", judge(late, 9, 9), 1);
        due("the first may be so by those ahead", judge(late, 9, 3), 1);
        book.sentence("(STRETCHES, DATES that bind, MOST; no YEAR).");
        x = candle("sss");
        x.stretch(0, 2, 0, 1, 3);
        due("a STRETCH, just not", judge(x, 4, 6, 6), 1);
        due("a STRETCH, just so", judge(x, 4, 7, 7), NONE);
        x.date(0, 2, 9, 9, 0);
        due("a DATE, just not", judge(x, 4, 7, 8), 2);
        due("a DATE, just so", judge(x, 4, 7, 9), NONE);
        due("a DATE, just not, later", judge(x, 4, 7, 10), 2);
        x.throwOut(0, 1);
        due("a DATE that does not bind", judge(x, 4, 7, 10), NONE);
        due("MOST, just so", judge(candle("sss"), 4, 4, 5), NONE);
        due("MOST, just not", judge(candle("sss"), 4, 4, 4), 2);
        due("no YEAR below", judge(candle("ss"), -1, 4), 0);
        due("no YEAR above", judge(candle("ss"), 4, 24), 1);
        due("no YEAR far below", judge(candle("ss"), 4, MIN), 1);
        due("no YEAR far above", judge(candle("ss"), MAX, 4), 0);
        due("no YEAR far from another", judge(candle("ss"), MIN, MAX), 0);
    }

    private static int judgeOfOther() {
        DripStone x = candle("s");
        things(x, 1, "gsgs");
        fill(x, 0, 0, 3, 4);
        return x.judge(1, 0, 0, 0);
    }

    private static void judgeRefused() {
        book.sentence("BAD; NOT: no PLACE; NULL; CAST; INDEX; NONE: it is a WAY.");
        book.range("candle", 0, 1, v -> judgedOne().judge(v, 0, 2, 0), BAD);
        book.range("sheet", 0, 3, v -> judgedOne().judge(0, v, 2, 0), BAD);
        book.range("lane", 0, 2, v -> judgedOne().judge(0, 0, v, 0), BAD);
        due("no PLACE", judgedOne().judge(1, 0, 2, 0), NOT);
        due("a GAP is no PLACE", States.STUCK.make().judge(1, 0, 0, 0), NOT);
        due("nothing", judgedOne().judge(0, 1, 2, 0), NULL);
        due("bytes", judgedOne().judge(0, 0, 0, 0), CAST);
        due("shorts", judgedOne().judge(0, 0, 1, 0), CAST);
        due("ints", judgedOne().judge(0, 0, 2, 0), NONE);
        due("from -1", judgedOne().judge(0, 0, 2, -1), INDEX);
        due("from 1 of one", judgedOne().judge(0, 0, 2, 1), INDEX);
        due("far below", judgedOne().judge(0, 0, 2, MIN), INDEX);
        due("far above", judgedOne().judge(0, 0, 2, MAX), INDEX);
        due("one item for two PLACES", judge(candle("ss"), 5), INDEX);
        due("one item that is wrong for two PLACES", judge(candle("ss"), 24), INDEX);
        due("two items for two PLACES", judge(candle("ss"), 5, 5), NONE);
        due("two items for one PLACE", judge(candle("sg"), 5, 99), NONE);
        due("no item for one PLACE", judge(candle("s")), INDEX);
        DripStone x = candle("ssssssssssss");
        fill(x, 0, 0, 99, 99, 99, 99, 99, 99, 99, 99, 99, 99, 99, 99, 1, 2, 3, 4, 5, 6, 7, 8, 9, 10, 11, 12);
        due("twelve, the last of 24", x.judge(0, 0, 0, 12), NONE);
        due("one of them behind the last", x.judge(0, 0, 0, 13), INDEX);
        due("BAD and NOT", judgedOne().judge(1, 0, 3, 0), BAD);
        due("BAD and NULL", judgedOne().judge(0, 4, 2, 0), BAD);
        due("NOT and NULL", judgedOne().judge(1, 1, 2, 0), NOT);
        due("NOT and CAST", judgedOne().judge(1, 0, 1, 0), NOT);
        due("NULL and INDEX", judgedOne().judge(0, 1, 2, -1), NULL);
        due("CAST and INDEX", judgedOne().judge(0, 0, 1, 9), CAST);
        due("no WAY at all, but a THING that can't be so", judge(stuck(), 5, 7), 2);
        book.refused("INDEX", States.RICH, y -> y.judge(0, 0, 0, 0), INDEX);
        book.refused("NULL", States.RICH, y -> y.judge(0, 2, 0, 0), NULL);
    }

    private static DripStone judgedOne() {
        DripStone x = candle("s");
        fill(x, 0, 2, 5);
        return x;
    }
}
