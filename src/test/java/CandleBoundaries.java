/** Every sentence of the promises 11 to 20: candles, stretches, dates, and how many there are. */
public final class CandleBoundaries extends Setup {
    public static void main(String[] args) throws Exception {
        book = new Book("Promise 11:", "Promise 21:");
        make();
        truth();
        put();
        cut();
        thing();
        most();
        stretch();
        date();
        throwOut();
        count();
        book.close();
    }

    private static void make() {
        book.promise(11);
        book.sentence("A CANDLE is MADE");
        book.range("candle", 0, 1, v -> States.RICH.make().make(v), BAD);
        DripStone x = States.RICH.make();
        due("as it was", x.make(1), 11);
        due("the other stays", x.count(4), 10);
        due("its WAYS are counted", x.ways(1) > 0 ? 1 : 0, 1);
        x.set(1, 9);
        x.make(1);
        long before = x.ways(1);
        x.rain(0, 0, 0);
        x.make(1);
        due("and counted anew", x.ways(1) == before ? 1 : 0, 0);
        book.sentence("(its STRETCHES, DATES go; other DATES get numbers anew, in order):");
        x = States.RICH.make();
        x.throwOut(1, 4);
        x.throwOut(5, 5);
        x.make(0);
        due("DATES of CANDLE 1 are left", x.count(0), 3);
        due("DATE 1 is 0 now", x.throwOut(0, 4), 4);
        due("DATE 3 is 1 now", x.throwOut(1, 7), 7);
        due("DATE 5 is 2 now", x.throwOut(2, 5), 5);
        due("there is no 3", x.throwOut(3, 0), BAD);
        due("no STRETCH is left", x.stretch(0, 0, 0, 0, 0), 1);
        due("those of the other are", x.stretch(1, 0, 0, 0, 0), 2);
        due("MOST stays", x.most(0, 1), 3);
        x.make(1);
        due("no DATE is left", x.count(0), 0);
        due("no STRETCH is left", x.stretch(1, 0, 0, 0, 0), 1);
        x = States.RICH.make();
        x.make(1);
        due("DATES of CANDLE 0 are left", x.count(0), 3);
        due("the first is as it was", x.leans(0, 4, 0), States.RICH.make().leans(0, 4, 0));
        book.sentence("how many THINGS.");
        DripStone y = new DripStone();
        law(y, "*:4");
        due("none", y.make(0), 0);
        amounts(y, 1);
        due("four", y.make(0), 4);
        amounts(y, 1, 1, 1);
        due("twelve", y.make(0), 12);
        amounts(y, 1, 1, 1, 1);
        due("no more than twelve", y.make(0), 12);
        amounts(y, 0, 0, 0, 0);
        due("none again", y.make(0), 0);
        due("none is left of the old", y.count(4), 0);
        book.sentence("BAD; NOT: there is no LAW.");
        due("no LAW", new DripStone().make(1), NOT);
        due("BAD and NOT", new DripStone().make(2), BAD);
        book.refusedAlways("candle -1", z -> z.make(-1), BAD);
        book.refused("no LAW", States.STUCK, z -> z.make(0), NOT);
    }

    private static void truth() {
        book.promise(12);
        book.sentence("The YEAR of a STONE by TRUTH.");
        DripStone x = new DripStone();
        x.rain(0, 0, 1);
        x.rain(23, 0, 1);
        law(x, "*:1");
        due("two STONES with a GAP between", x.make(1), 3);
        due("the first YEAR", x.truth(1, 0), 0);
        due("the last YEAR", x.truth(1, 2), 23);
        book.sentence("BAD; NOT: there is none; CAST: a GAP.");
        book.range("candle", 0, 1, v -> States.RICH.make().truth(v, 0), BAD);
        book.range("thing", 0, 9, v -> States.RICH.make().truth(0, v), BAD);
        due("a GAP", x.truth(1, 1), CAST);
        due("nothing there", x.truth(0, 0), BAD);
        x.put(0, 0, 0);
        due("no TRUTH", x.truth(0, 0), NOT);
        due("BAD and NOT", x.truth(0, 1), BAD);
        x.put(0, 2, 0);
        due("NOT and CAST", x.truth(0, 1), NOT);
        x.make(0);
        due("MADE, there is one", x.truth(0, 0), 0);
        book.refused("a GAP", States.RICH, y -> y.truth(0, 3), CAST);
        book.refused("no TRUTH", States.RICH, y -> y.truth(1, 0), NOT);
    }

    private static void put() {
        book.promise(13);
        book.sentence("A THING (of a KIND; a WEIGHT, 0 but for STONE) comes behind all: its number.");
        DripStone x = new DripStone();
        due("the first", x.put(1, 0, -50), 0);
        due("behind it", x.put(1, 1, 0), 1);
        due("behind both", x.put(1, 2, 0), 2);
        due("a STONE", x.thing(1, 0, 0) * 1000 + x.thing(1, 0, 1), -50);
        due("DIRT", x.thing(1, 1, 0), 1);
        due("a GAP", x.thing(1, 2, 0), 2);
        due("behind a MADE one", States.RICH.make().put(0, 0, 0), 10);
        due("in place of those cut off", putBehindCut(), 2);
        book.sentence("BAD; FULL: 12.");
        book.range("candle", 0, 1, v -> new DripStone().put(v, 1, 0), BAD);
        book.range("KIND", 0, 2, v -> new DripStone().put(1, v, 0), BAD);
        book.range("WEIGHT", -50, 50, v -> new DripStone().put(1, 0, v), BAD);
        book.range("WEIGHT of DIRT", 0, 0, v -> new DripStone().put(1, 1, v), BAD);
        book.range("WEIGHT of a GAP", 0, 0, v -> new DripStone().put(1, 2, v), BAD);
        x = candle("sssssssssss");
        due("the 12th", x.put(0, 2, 0), 11);
        for (int kind = 0; kind < 3; kind++) {
            due("a 13th of KIND " + kind, x.put(0, kind, 0), FULL);
        }
        due("BAD and FULL: KIND", x.put(0, 3, 0), BAD);
        due("BAD and FULL: WEIGHT", x.put(0, 0, -51), BAD);
        due("the other is not FULL", x.put(1, 0, 0), 0);
        x.cut(0, 11);
        due("room again", x.put(0, 0, 0), 11);
        book.refused("FULL", States.FULL, y -> y.put(1, 1, 0), FULL);
        book.refusedAlways("KIND 3", y -> y.put(0, 3, 0), BAD);
        book.refusedAlways("a GAP of WEIGHT -1", y -> y.put(0, 2, -1), BAD);
    }

    private static int putBehindCut() {
        DripStone x = candle("sss");
        x.cut(0, 2);
        return x.put(0, 1, 0);
    }

    private static void cut() {
        book.promise(14);
        book.sentence("All THINGS from one on are cut off,");
        DripStone x = stones(1, 2, 3);
        due("the last", x.cut(0, 2), 2);
        due("it is gone", x.thing(0, 2, 0), -1001);
        due("the one ahead is not", x.thing(0, 1, 1), 2);
        due("all", x.cut(0, 0), 0);
        due("nothing is left", x.count(4), 0);
        book.sentence("with STRETCHES that have one of them,");
        x = candle("sssss");
        x.most(0, 4);
        x.stretch(0, 2, 0, 2, 2);
        x.stretch(0, 2, 0, 3, 3);
        x.stretch(0, 2, 3, 4, 4);
        x.stretch(0, 2, 2, 2, 5);
        x.stretch(0, 2, 1, 2, 6);
        things(x, 1, "ssss");
        x.stretch(1, 2, 0, 3, 2);
        x.cut(0, 3);
        due("three are left, which this one joins", x.stretch(0, 0, 0, 0, 0), 4);
        due("0 to 2 is left: 2", x.span(0, 0, 1, 0), 2);
        due("1 to 2 is left: 6", x.span(0, 1, 2, 0), 6);
        due("that of the other is left", x.stretch(1, 0, 0, 0, 0), 2);
        x.cut(0, 2);
        due("1 is left, which this one joins", x.stretch(0, 0, 0, 0, 0), 2);
        due("none binds", x.span(0, 0, 1, 0), 0);
        things(x, 0, "sss");
        due("they do not come again with new THINGS", x.span(0, 1, 4, 0), 0);
        cutDates();
        book.sentence("BAD: it is not there.");
        book.range("candle", 0, 1, v -> States.RICH.make().cut(v, 0), BAD);
        book.range("thing", 0, 9, v -> States.RICH.make().cut(0, v), BAD);
        due("none is there", new DripStone().cut(0, 0), BAD);
        due("one is there", candle("g").cut(0, 0), 0);
        due("one behind it is not", candle("g").cut(0, 1), BAD);
        due("of the other", candle("g").cut(1, 0), BAD);
        book.refusedAlways("thing 12", y -> y.cut(0, 12), BAD);
        book.refusedAlways("thing -1", y -> y.cut(0, -1), BAD);
        book.refusedAlways("candle 2", y -> y.cut(2, 0), BAD);
    }

    private static void cutDates() {
        book.sentence("DATES of them (others get numbers anew, in order):");
        DripStone x = candle("sss");
        things(x, 1, "sss");
        x.most(1, 4);
        int[][] dates = {{0, 2}, {1, 2}, {0, 1}, {0, 2}, {1, 0}, {0, 0}};
        for (int i = 0; i < dates.length; i++) {
            x.date(dates[i][0], dates[i][1], 3 + i, 23, 0);
            x.throwOut(i, i + 1);
        }
        due("cut", x.cut(0, 2), 2);
        due("four DATES are left", x.count(0), 4);
        int[] reasons = {2, 3, 5, 6, BAD};
        for (int d = 0; d < reasons.length; d++) {
            due("DATE " + d, x.throwOut(d, 0), reasons[d]);
        }
        due("the DATE of THING 1 binds it", x.ends(0, 1, 0), 8);
        due("that of THING 0 binds it", x.ends(0, 0, 0), 8);
        due("those of CANDLE 1 bind it", x.ends(1, 2, 0), 7);
        x.throwOut(3, 9);
        x.cut(0, 1);
        x.cut(0, 0);
        due("two DATES are left", x.count(0), 2);
        things(x, 0, "s");
        due("the next DATE", x.date(0, 0, 7, 23, 0), 2);
        due("it is not THROWN as the one that was there", x.throwOut(2, 0), 0);
        due("so that it binds", x.ends(0, 0, 0), 7);
        x = candle("ss");
        x.date(0, 1, 0, 0, 0);
        x.date(0, 0, 5, 6, 1);
        x.date(0, 0, 0, 9, 0);
        x.throwOut(2, 3);
        x.cut(0, 1);
        due("DIRTY still is from its YEAR on", x.ends(0, 0, 0) * 100 + x.ends(0, 0, 1), 523);
        x.throwOut(1, 0);
        due("PLAIN still is within", x.ends(0, 0, 0) * 100 + x.ends(0, 0, 1), 509);
        book.sentence("how many are left.");
        due("one", candle("sgs").cut(0, 1), 1);
        due("none", candle("sgs").cut(0, 0), 0);
        due("eleven", States.FULL.make().cut(1, 11), 11);
    }

    private static void thing() {
        book.promise(15);
        book.sentence("KIND (0), WEIGHT (1) of a THING.");
        book.range("what", 0, 1, v -> candle("s").thing(0, 0, v), -1001);
        DripStone x = stones(50, -50, -1);
        x.put(0, 1, 0);
        x.put(0, 2, 0);
        due("a WEIGHT", x.thing(0, 0, 1), 50);
        due("a WEIGHT below nought", x.thing(0, 1, 1), -50);
        due("-1 is no refusal", x.thing(0, 2, 1), -1);
        int[] kinds = {0, 0, 0, 1, 2};
        for (int t = 0; t < 5; t++) {
            due("KIND of " + t, x.thing(0, t, 0), kinds[t]);
        }
        book.sentence("BAD less 1000; CAST less that (-1012): it has no WEIGHT.");
        book.range("candle", 0, 1, v -> States.RICH.make().thing(v, 0, 0), -1001);
        book.range("thing", 0, 9, v -> States.RICH.make().thing(0, v, 0), -1001);
        book.range("thing of FULL", 0, 11, v -> States.FULL.make().thing(1, v, 0), -1001);
        due("nothing there", new DripStone().thing(0, 0, 0), -1001);
        due("DIRT", x.thing(0, 3, 1), -1012);
        due("a GAP", x.thing(0, 4, 1), -1012);
        due("BAD and CAST", x.thing(0, 4, 2), -1001);
        book.refused("a GAP", States.RICH, y -> y.thing(0, 3, 1), -1012);
    }

    private static void most() {
        book.promise(16);
        book.sentence("MOST: what it was.");
        DripStone x = candle("ss");
        due("2 at first", x.most(0, 1), 2);
        due("two YEARS for two", x.ways(0), 276);
        due("1", x.most(0, 4), 1);
        due("one YEAR for two, too", x.ways(0), 300);
        due("4", x.most(0, 4), 4);
        due("the other has its own", x.most(1, 3), 2);
        book.sentence("BAD.");
        book.range("candle", 0, 1, v -> new DripStone().most(v, 1), BAD);
        book.range("MOST", 1, 4, v -> new DripStone().most(1, v), BAD);
        book.refusedAlways("MOST 0", y -> y.most(0, 0), BAD);
        book.refusedAlways("candle 2", y -> y.most(2, 1), BAD);
    }

    private static void stretch() {
        book.promise(17);
        book.sentence("A STRETCH (EVEN: n 0): how many the CANDLE has.");
        DripStone x = candle("sgd");
        things(x, 1, "ss");
        due("the first", x.stretch(0, 0, 0, 2, 0), 1);
        due("the second", x.stretch(0, 0, 0, 2, 0), 2);
        due("the first of the other", x.stretch(1, 1, 0, 1, 1), 1);
        book.range("n of EVEN", 0, 0, v -> candle("s").stretch(0, 0, 0, 0, v), BAD);
        book.range("n of FAST", 1, 4, v -> candle("s").stretch(0, 1, 0, 0, v), BAD);
        book.range("n of STOPPED", 1, 20, v -> candle("s").stretch(0, 2, 0, 0, v), BAD);
        book.sentence("BAD; CAST: an end is a GAP; FULL: 6.");
        book.range("candle", 0, 1, v -> States.RICH.make().stretch(v, 0, 0, 0, 0), BAD);
        for (int n = 0; n <= 1; n++) {
            due("KIND -1 with n " + n, candle("s").stretch(0, -1, 0, 0, n), BAD);
            due("KIND 3 with n " + n, candle("s").stretch(0, 3, 0, 0, n), BAD);
        }
        due("from -1", candle("sss").stretch(0, 0, -1, 2, 0), BAD);
        due("from 0", candle("sss").stretch(0, 0, 0, 2, 0), 1);
        due("from the last", candle("sss").stretch(0, 0, 2, 2, 0), 1);
        due("from behind the last", candle("sss").stretch(0, 0, 3, 3, 0), BAD);
        due("to behind the last", candle("sss").stretch(0, 0, 0, 3, 0), BAD);
        due("to one ahead", candle("sss").stretch(0, 0, 1, 0, 0), BAD);
        due("far", candle("sss").stretch(0, 0, MIN, MAX, 0), BAD);
        due("none there", new DripStone().stretch(0, 0, 0, 0, 0), BAD);
        due("of the other", candle("sss").stretch(1, 0, 0, 0, 0), BAD);
        due("from a GAP", candle("gs").stretch(0, 0, 0, 1, 0), CAST);
        due("to a GAP", candle("sg").stretch(0, 0, 0, 1, 0), CAST);
        due("from a GAP to it", candle("g").stretch(0, 0, 0, 0, 0), CAST);
        due("over a GAP", candle("sgs").stretch(0, 0, 0, 2, 0), 1);
        due("BAD and CAST: n", candle("sg").stretch(0, 1, 0, 1, 5), BAD);
        due("BAD and CAST: back", candle("gs").stretch(0, 0, 1, 0, 0), BAD);
        x = candle("sg");
        for (int i = 1; i <= 6; i++) {
            due("STRETCH " + i, x.stretch(0, 2, 0, 0, 20), i);
        }
        due("a 7th", x.stretch(0, 0, 0, 0, 0), FULL);
        due("BAD and FULL", x.stretch(0, 2, 0, 0, 21), BAD);
        due("CAST and FULL", x.stretch(0, 0, 0, 1, 0), CAST);
        things(x, 1, "s");
        due("the other is not FULL", x.stretch(1, 0, 0, 0, 0), 1);
        book.refused("FULL", States.FULL, y -> y.stretch(1, 2, 0, 7, 9), FULL);
        book.refused("CAST", States.RICH, y -> y.stretch(1, 2, 0, 1, 9), CAST);
        book.refusedAlways("FAST 0", y -> y.stretch(0, 1, 0, 0, 0), BAD);
    }

    private static void date() {
        book.promise(18);
        book.sentence("A DATE: its number.");
        DripStone x = candle("sgd");
        things(x, 1, "s");
        due("the first", x.date(0, 2, 0, 23, 0), 0);
        due("the second, of the other", x.date(1, 0, 23, 23, 1), 1);
        due("the third", x.date(0, 0, 0, 0, 0), 2);
        due("as many", x.count(0), 3);
        book.sentence("BAD: also from above to;");
        book.range("candle", 0, 1, v -> States.RICH.make().date(v, 0, 0, 23, 0), BAD);
        book.range("thing", 0, 1, v -> candle("sd").date(0, v, 0, 23, 0), BAD);
        book.range("from", 0, 23, v -> candle("s").date(0, 0, v, 23, 0), BAD);
        book.range("to", 0, 23, v -> candle("s").date(0, 0, 0, v, 0), BAD);
        book.range("dirty", 0, 1, v -> candle("s").date(0, 0, 5, 6, v), BAD);
        book.range("from, to 9", 0, 9, v -> candle("s").date(0, 0, v, 9, 0), BAD);
        book.range("to, from 9", 9, 23, v -> candle("s").date(0, 0, 9, v, 0), BAD);
        book.range("from of DIRTY, to 9", 0, 9, v -> candle("s").date(0, 0, v, 9, 1), BAD);
        due("none there", new DripStone().date(0, 0, 0, 0, 0), BAD);
        due("of the other", candle("s").date(1, 0, 0, 0, 0), BAD);
        book.sentence("CAST: a GAP; FULL: 8.");
        due("a GAP", x.date(0, 1, 0, 0, 0), CAST);
        due("BAD and CAST", x.date(0, 1, 1, 0, 0), BAD);
        for (int d = 3; d < 8; d++) {
            due("DATE", x.date(d % 2, 0, 0, 23, 1), d);
        }
        due("a 9th", x.date(0, 0, 0, 23, 0), FULL);
        due("of the other a 9th, too", x.date(1, 0, 0, 23, 0), FULL);
        due("CAST and FULL", x.date(0, 1, 0, 0, 0), CAST);
        due("BAD and FULL", x.date(0, 0, 24, 24, 0), BAD);
        x.throwOut(0, 1);
        due("THROWN ones count", x.date(0, 0, 0, 23, 0), FULL);
        x.cut(0, 2);
        due("room again", x.date(0, 0, 0, 23, 0), 7);
        due("one fitted", x.date(0, 0, 0, 23, 0), FULL);
        book.refused("FULL", States.FULL, y -> y.date(1, 0, 20, 20, 0), FULL);
        book.refused("CAST", States.RICH, y -> y.date(1, 1, 20, 20, 0), CAST);
        book.refusedAlways("dirty 2", y -> y.date(0, 0, 0, 0, 2), BAD);
    }

    private static void throwOut() {
        book.promise(19);
        book.sentence("A DATE is THROWN out for a reason, or not (0): the reason that was.");
        DripStone x = candle("s");
        x.date(0, 0, 5, 5, 0);
        x.date(0, 0, 5, 6, 0);
        due("not at first", x.throwOut(0, 1), 0);
        due("it does not bind", x.ways(0), 2);
        due("for 1", x.throwOut(0, 9), 1);
        due("it does not bind", x.ways(0), 2);
        due("for 9", x.throwOut(0, 0), 9);
        due("it binds again", x.ways(0), 1);
        due("not", x.throwOut(0, 0), 0);
        due("the other is as it was", x.throwOut(1, 5), 0);
        things(x, 1, "s");
        x.date(1, 0, 5, 6, 0);
        due("of CANDLE 1", x.ways(1), 2);
        x.throwOut(2, 1);
        due("of CANDLE 1, it does not bind", x.ways(1), 24);
        due("of CANDLE 0 still", x.ways(0), 1);
        x.throwOut(2, 0);
        due("of CANDLE 1, it binds again", x.ways(1), 2);
        book.sentence("BAD.");
        due("no DATE", new DripStone().throwOut(0, 0), BAD);
        book.range("date of one", 0, 0, v -> oneDate().throwOut(v, 0), BAD);
        book.range("date of eight", 0, 7, v -> States.FULL.make().throwOut(v, 3), BAD);
        book.range("why", 0, 9, v -> oneDate().throwOut(0, v), BAD);
        book.refusedAlways("why -1", y -> y.throwOut(0, -1), BAD);
        book.refusedAlways("date -1", y -> y.throwOut(-1, 1), BAD);
    }

    private static DripStone oneDate() {
        DripStone x = candle("s");
        x.date(0, 0, 5, 5, 0);
        return x;
    }

    private static void count() {
        book.promise(20);
        book.sentence("How many: 0 DATES, 1 THROWN ones, 2 CLAIMS, 3 CAUSES, 4, 5 THINGS, 6, 7 PLACES of CANDLES 0, 1.");
        counts(States.FRESH, 0, 0, 0, 0, 0, 0, 0, 0);
        counts(States.RICH, 6, 1, 2, 2, 10, 6, 8, 5);
        counts(States.FULL, 8, 1, 4, 5, 12, 12, 12, 10);
        counts(States.STUCK, 3, 0, 1, 0, 3, 1, 2, 0);
        DripStone x = oneDate();
        due("one DATE", x.count(0), 1);
        x.throwOut(0, 9);
        due("one THROWN", x.count(1), 1);
        due("it is still a DATE", x.count(0), 1);
        x.throwOut(0, 0);
        due("none THROWN", x.count(1), 0);
        x.cut(0, 0);
        due("no DATE", x.count(0), 0);
        book.sentence("BAD.");
        book.range("what", 0, 7, v -> new DripStone().count(v), BAD);
        book.refusedAlways("what 8", y -> y.count(8), BAD);
    }

    private static void counts(States state, int... due) {
        DripStone x = state.make();
        for (int what = 0; what < 8; what++) {
            due("count " + what + " of " + state, x.count(what), due[what]);
        }
    }
}
