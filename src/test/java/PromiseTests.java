/**
 * Each promise of the document by answers worked out by hand: ordinary calls, the edges that the
 * document names, and wrong numbers.
 */
public final class PromiseTests {
    private static final int MIN = Integer.MIN_VALUE, MAX = Integer.MAX_VALUE;
    private static int promise;
    private static int wrong;
    private static int asked;

    private static void due(String what, long got, long want) {
        asked++;
        if (got != want) {
            wrong++;
            System.out.println("promise " + promise + ": " + what + " answered " + got + ", due is " + want);
        }
    }

    public static void main(String[] args) {
        rainAndHill();
        texts();
        candles();
        ways();
        twoCandlesClaimsCauses();
        imagesAndSheets();
        System.out.println(asked + " answers asked, " + wrong + " wrong");
        if (wrong != 0) {
            System.exit(1);
        }
    }

    private static int type(DripStone x, String text) {
        int typed = 0;
        for (int at = 0; at < text.length(); at += 8) {
            int n = Math.min(8, text.length() - at);
            long w = 0;
            for (int i = 0; i < n; i++) {
                w = w << 8 | text.charAt(at + i);
            }
            typed = x.type(w, n);
        }
        return typed;
    }

    private static int law(DripStone x, String text) {
        type(x, text);
        return x.law();
    }

    private static int claim(DripStone x, String text) {
        type(x, text);
        return x.claim();
    }

    private static DripStone stones(int... weights) {
        DripStone x = new DripStone();
        for (int w : weights) {
            x.put(0, 0, w);
        }
        return x;
    }

    private static void fill(DripStone x, int sheet, int lane, int... items) {
        x.sheet(sheet, lane, items.length);
        for (int i = 0; i < items.length; i++) {
            x.item(sheet, lane, i, items[i]);
        }
    }

    private static void rainAndHill() {
        newObject();
        rain();
        rains();
        hill();
        learn();
    }

    private static void newObject() {
        promise = 1;
        DripStone x = new DripStone();
        for (int what = 0; what < 8; what++) {
            due("count(" + what + ")", x.count(what), 0);
        }
        for (int year = 0; year < 24; year++) {
            due("wet", x.wet(year), 0);
            due("water", x.water(year), -1004);
            due("grows", x.grows(year), 0);
            due("rain", x.rain(year, 0, 1) + x.rain(year, 1, 1) + x.rain(year, 2, 1), 0);
        }
        due("make without a LAW", x.make(0), -2);
        due("K", x.set(0, 1), 1);
        due("SEEN", x.set(1, 1), 3);
        due("MOST of 0", x.most(0, 1), 2);
        due("MOST of 1", x.most(1, 1), 2);
        due("restore", x.restore(), -4);
        for (int s = 0; s < 4; s++) {
            due("drop", x.drop(s), -11);
        }
        due("grows with rain but no LAW", x.grows(5), 0);
        due("type", x.type('a', 1), 1);
    }

    private static void rain() {
        promise = 2;
        DripStone x = new DripStone();
        due("amount", x.rain(23, 0, 9), 0);
        due("amount again", x.rain(23, 0, 0), 9);
        due("weight", x.rain(0, 1, -20), 0);
        due("weight again", x.rain(0, 1, 20), -20);
        due("heat", x.rain(7, 2, 9), 0);
        due("heat again", x.rain(7, 2, 9), 9);
        int[][] bad = {{-1, 0, 1}, {24, 0, 1}, {0, -1, 1}, {0, 3, 1}, {0, 0, -1}, {0, 0, 10}, {0, 1, -21}, {0, 1, 21},
            {0, 2, -1}, {0, 2, 10}, {MIN, 0, 1}, {0, MAX, 1}, {0, 0, MIN}};
        for (int[] b : bad) {
            due("rain " + java.util.Arrays.toString(b), x.rain(b[0], b[1], b[2]), -1001);
        }
        due("what is refused changes nothing", x.rain(0, 1, 0), 20);
        due("years do not share", x.rain(22, 0, 0), 0);
    }

    private static void rains() {
        promise = 3;
        DripStone x = new DripStone();
        fill(x, 1, 2, 7, 3, 9, 0, 10, -20, 20, 21);
        due("amounts", x.rains(0, 1, 2, 0, 4), 4);
        due("year 0", x.rain(0, 0, 0), 7);
        due("year 3", x.rain(3, 0, 1), 0);
        due("ten is no amount", x.rains(0, 1, 2, 0, 5), -2);
        due("year 1 is as it was", x.rain(1, 0, 3), 3);
        due("weights", x.rains(1, 1, 2, 5, 2), 2);
        due("weight of 1", x.rain(1, 1, 0), 20);
        due("21 is no weight", x.rains(1, 1, 2, 6, 2), -2);
        due("heats", x.rains(2, 1, 2, 1, 3), 3);
        due("heat of 1", x.rain(1, 2, 0), 9);
        due("what", x.rains(3, 1, 2, 0, 1), -1);
        due("what", x.rains(-1, 1, 2, 0, 1), -1);
        due("sheet", x.rains(0, 4, 2, 0, 1), -1);
        due("lane", x.rains(0, 1, 3, 0, 1), -1);
        due("n 0", x.rains(0, 1, 2, 0, 0), -1);
        due("n 25", x.rains(0, 1, 2, 0, 25), -1);
        due("BAD ahead of NULL", x.rains(0, 0, 2, 0, 25), -1);
        due("NULL", x.rains(0, 0, 2, 0, 1), -11);
        due("NULL ahead of INDEX", x.rains(0, 0, 2, -1, 1), -11);
        due("CAST ahead of INDEX", x.rains(0, 1, 1, -1, 1), -12);
        due("INDEX below", x.rains(0, 1, 2, -1, 1), -13);
        due("INDEX above", x.rains(0, 1, 2, 1, 8), -13);
        due("INDEX ahead of NOT", x.rains(0, 1, 2, 4, 8), -13);
        due("INDEX far", x.rains(0, 1, 2, MAX, 2), -13);
        due("INDEX far below", x.rains(0, 1, 2, MIN, 24), -13);
    }

    private static void hill() {
        promise = 4;
        DripStone x = new DripStone();
        due("K", x.set(0, 5), 1);
        due("K was", x.set(0, 2), 5);
        due("SEEN", x.set(1, 9), 3);
        due("SEEN was", x.set(1, 1), 9);
        due("K 6", x.set(0, 6), -1);
        due("K 0", x.set(0, 0), -1);
        due("SEEN 10", x.set(1, 10), -1);
        due("SEEN 0", x.set(1, 0), -1);
        due("what", x.set(2, 1), -1);
        due("what", x.set(-1, 1), -1);
        due("K is as it was", x.set(0, 3), 2);

        promise = 5;
        for (int y = 0; y < 9; y++) {
            x.rain(y, 0, y + 1);
        }
        due("wet of the first", x.wet(0), 1);
        due("wet from YEAR 0 on", x.wet(1), 3);
        due("wet of three", x.wet(4), 3 + 4 + 5);
        due("wet behind the rain", x.wet(10), 9);
        due("wet dry", x.wet(11), 0);
        x.set(0, 1);
        due("wet of one", x.wet(4), 5);
        x.set(0, 5);
        due("wet of five", x.wet(8), 5 + 6 + 7 + 8 + 9);
        due("wet -1", x.wet(-1), -1);
        due("wet 24", x.wet(24), -1);

        promise = 6;
        x = new DripStone();
        x.set(0, 2);
        x.rain(0, 0, 1);
        x.rain(0, 1, -5);
        x.rain(1, 0, 2);
        x.rain(1, 1, -1);
        x.rain(2, 0, 3);
        x.rain(2, 1, 20);
        due("water of one", x.water(0), -5);
        due("water is cut, not rounded down: -7 / 3", x.water(1), -2);
        due("water 58 / 5", x.water(2), 11);
        due("water of the year ahead alone", x.water(3), 20);
        due("no water", x.water(4), -1004);
        due("water -1", x.water(-1), -1001);
        due("water 24", x.water(24), -1001);
    }

    private static void learn() {
        promise = 10;
        DripStone x = new DripStone();
        x.rain(3, 0, 2);
        x.rain(3, 1, 10);
        x.rain(4, 0, 2);
        x.rain(4, 1, -10);
        x.rain(5, 0, 4);
        x.rain(5, 1, 4);
        // WATER of 5 by K: 4, (16-20)/6 = 0, (16-20+20)/8 = 2, 2, 2; of 3: 10 for all; of 6: none, 4, ..
        fill(x, 0, 0, 5, 4, 5, 1, 3, 10, 6, 4, 24, 1, -1, 1);
        due("one bucket, exact", x.learn(0, 0, 0, 1, 0), 1);
        due("one bucket, near", x.learn(0, 0, 0, 1, 2), 1 + 4 + 8 + 16);
        due("one bucket, all", x.learn(0, 0, 0, 1, 4), 31);
        due("two buckets", x.learn(0, 0, 0, 2, 2), 4 + 8 + 16);
        due("three buckets", x.learn(0, 0, 0, 3, 3), 1 + 4 + 8 + 16);
        due("none fits", x.learn(0, 0, 0, 2, 0), -4);
        due("no water by K 1", x.learn(0, 0, 6, 1, 0), 2);
        due("NOT: 24 is no YEAR", x.learn(0, 0, 0, 5, 9), -2);
        due("NOT: -1 is no YEAR", x.learn(0, 0, 10, 1, 9), -2);
        due("K stays", x.set(0, 1), 1);
        due("n 0", x.learn(0, 0, 0, 0, 1), -1);
        due("n 9", x.learn(0, 0, 0, 9, 1), -1);
        due("e -1", x.learn(0, 0, 0, 1, -1), -1);
        due("e 10", x.learn(0, 0, 0, 1, 10), -1);
        due("sheet", x.learn(4, 0, 0, 1, 1), -1);
        due("lane", x.learn(0, 3, 0, 1, 1), -1);
        due("NULL", x.learn(1, 0, 0, 1, 1), -11);
        due("CAST", x.learn(0, 1, 0, 1, 1), -12);
        due("INDEX: a bucket is two items", x.learn(0, 0, 11, 1, 1), -13);
        due("INDEX ahead of NOT", x.learn(0, 0, 8, 3, 1), -13);
        due("INDEX below", x.learn(0, 0, -1, 1, 1), -13);
        due("INDEX far", x.learn(0, 0, MAX, 8, 1), -13);
        fill(x, 2, 2, 3, MIN, 3, MAX);
        due("a WEIGHT far below", x.learn(2, 2, 0, 1, 9), -4);
        due("a WEIGHT far above", x.learn(2, 2, 2, 1, 9), -4);
    }

    private static void texts() {
        promise = 7;
        DripStone x = new DripStone();
        due("one byte", x.type('a', 1), 1);
        due("higher bytes do not matter", x.type(0x0102030405063e33L, 2), 3);
        due("a byte 31", x.type(0x611f61, 3), -1);
        due("a byte 127", x.type(0x7f, 1), -1);
        due("a byte 255", x.type(-1L, 8), -1);
        due("n 0", x.type('a', 0), -1);
        due("n 9", x.type('a', 9), -1);
        due("n 9 of eight good bytes", x.type(0x6161616161616161L, 9), -1);
        due("n far", x.type('a', MAX), -1);
        due("what is refused changes nothing", x.type(0x3a31, 2), 5);
        due("the highest byte comes first", x.law(), 1);
        for (int i = 1; i <= 10; i++) {
            due("type 8", x.type(0x2020202020202020L, 8), 8 * i);
        }
        due("FULL", x.type(' ', 1), -3);
        due("BAD ahead of FULL", x.type(31, 1), -1);
        due("all blank: the end", x.law(), -100);
        type(x, "                                                                              ");
        due("78 and 3", x.type(0x202020, 3), -3);
        due("78 and 2", x.type(0x7e7e, 2), 80);
        due("tilde", x.law(), -98);

        promise = 8;
        laws();
        promise = 9;
        growth();
        promise = 32;
        claims();
    }

    private static void laws() {
        DripStone x = new DripStone();
        due("nothing", x.law(), -20);
        due("always", law(x, "*:0"), 1);
        due("six", law(x, "*:1;a<0:1;h>99:2;w=5:3;a<1&h<1&w<1:4;*:0"), 6);
        due("seven", law(x, "*:1;*:1;*:1;*:1;*:1;*:1;*:1"), -20 - 23);
        due("four conditions", law(x, "a<1&h<1&w<1&a<1:1"), -20 - 11);
        due("a digit 5", law(x, "*:5"), -22);
        due("two digits", law(x, "*:10"), -23);
        due("two digits apart", law(x, "*:1 0"), -24);
        due("number 99", law(x, "a=99:1"), 1);
        due("number 100", law(x, "a=100:1"), -22);
        due("number with zeros ahead", law(x, "a=0007:1"), 1);
        due("number far too long", law(x, "a=99999999999999999999:1"), -22);
        due("a great number that wraps round", law(x, "a=4294967297:1"), -22);
        due("blanks ahead of a number that may not be", law(x, "a = 100:1"), -24);
        due("minus", law(x, "a>-1:1"), -22);
        due("blanks everywhere", law(x, "  a  <  5  &  h  =  0  :  3  ;  *  :  1  "), 2);
        due("a number cut by a blank", law(x, "a<1 0:1"), -24);
        due("* and a condition", law(x, "*&a<1:1"), -21);
        due("a condition and *", law(x, "a<1&*:1"), -24);
        due("no subject", law(x, "<1:1"), -20);
        due("no test", law(x, ":1"), -20);
        due("a capital", law(x, "A<1:1"), -20);
        due("no sign", law(x, "a1:1"), -21);
        due("<=", law(x, "a<=1:1"), -22);
        due("no number", law(x, "a<:1"), -22);
        due("no colon", law(x, "a<1 1"), -24);
        due("ends behind &", law(x, "a<1&"), -24);
        due("ends behind ;", law(x, "*:1; "), -25);
        due("ends behind :", law(x, "*: "), -23);
        due("comma", law(x, "*:1,*:1"), -23);
        due("starts with ;", law(x, ";*:1"), -20);
        due("THE TAPE is empty", x.type('*', 1), 1);
        due("star alone", x.law(), -21);
        x.rain(0, 0, 1);
        due("THE LAW stays", x.grows(0), 3);
    }

    private static void growth() {
        DripStone x = new DripStone();
        x.rain(0, 0, 5);
        x.rain(0, 2, 3);
        x.rain(1, 2, 3);
        x.rain(2, 0, 4);
        law(x, "*:4");
        due("always", x.grows(0), 4);
        due("never where WET is 0", x.grows(1), 0);
        law(x, "w>4:2");
        x.set(0, 2);
        due("kept WET", x.grows(1), 2);
        due("none of them", x.grows(2), 0);
        law(x, "a>5:1;a>4:2;*:3");
        due("first that holds", x.grows(0), 2);
        due("last", x.grows(2), 3);
        law(x, "a=5&h=3&w<6:1");
        due("all three", x.grows(0), 1);
        law(x, "a=5&h=4&w<6:1");
        due("one of three not", x.grows(0), 0);
        law(x, "h<3:1;h>3:2;h=3:3");
        due("heat", x.grows(0), 3);
        law(x, "w<5:1;w>5:2;w=5:3");
        due("wet", x.grows(0), 3);
        law(x, "*:0;*:1");
        due("0 is an answer", x.grows(0), 0);
        due("-1", x.grows(-1), -1);
        due("24", x.grows(24), -1);
    }

    private static void claims() {
        DripStone x = new DripStone();
        due("nothing", x.claim(), -20);
        due("three atoms", claim(x, "*@0-1#1&*@0-1#1|*@0-1#1"), -20 - 15);
        due("number 51", claim(x, "w<51@0-1#1"), -22);
        due("number -51", claim(x, "w< - 51@0-1#1"), -23);
        due("no number", claim(x, "w<-@0-1#1"), -23);
        due("two minus", claim(x, "w<--1@0-1#1"), -23);
        due("=", claim(x, "w=1@0-1#1"), -21);
        due("a", claim(x, "a<1@0-1#1"), -20);
        due("neither * nor w", claim(x, "@0-1#1"), -20);
        due("neither * nor w in the second", claim(x, "*@0-1#1|@0-1#1"), -28);
        due("YEAR 24", claim(x, "*@24-24#1"), -22);
        due("to 24", claim(x, "*@0-24#1"), -24);
        due("to less", claim(x, "*@ 7 - 6#1"), -27);
        due("#0", claim(x, "*@0-0#0"), -26);
        due("#13", claim(x, "*@0-0#13"), -26);
        due("#1 2", claim(x, "*@0-0#1 2"), -28);
        due("!!", claim(x, "!!*@0-0#1"), -21);
        due("! alone", claim(x, "!"), -21);
        due("! behind *", claim(x, "*!@0-0#1"), -21);
        due("no @", claim(x, "*0-0#1"), -21);
        due("no -", claim(x, "*@0 0#1"), -24);
        due("no #", claim(x, "*@0-0"), -25);
        due("ends behind |", claim(x, "*@0-0#1|"), -28);
        due(";", claim(x, "*@0-0#1;*@0-0#1"), -27);
        due("no CLAIM came of a FAULT", x.count(2), 0);
        due("CLAIM 0", claim(x, "!*@0-23#12"), 0);
        due("CLAIM 1", claim(x, " ! w > - 50 @ 0 - 0 # 1 | w < 50 @ 23 - 23 # 12 "), 1);
        due("CLAIM 2", claim(x, "w>0@5-5#1&!*@00-1#01"), 2);
        due("THE TAPE is empty", x.type('*', 1), 1);
        due("FAULT", x.claim(), -21);
        due("CLAIM 3", claim(x, "*@0-1#1"), 3);
        due("a FAULT ahead of FULL", claim(x, "*@0-1#"), -26);
        due("FULL", claim(x, "*@0-1#1"), -3);
        due("what is refused changes nothing: THE TAPE stays", x.type('&', 1), 8);
        due("FAULT at its end", x.claim(), -28);
        due("four", x.count(2), 4);
    }

    private static void candles() {
        make();
        putCutThing();
        stretchesAndDates();
        numbersAnew();
    }

    private static void make() {
        promise = 11;
        DripStone x = new DripStone();
        x.rain(1, 0, 2);
        x.rain(1, 1, 7);
        x.rain(1, 2, 9);
        x.rain(4, 0, 3);
        x.rain(4, 1, -20);
        x.rain(4, 2, 9);
        x.rain(8, 0, 1);
        law(x, "a=2:2;a=3:1;a=1:4");
        due("make", x.make(1), 2 + 1 + 1 + 4);
        due("candle 0 is none", x.count(4), 0);
        due("2 YEARS between are not SEEN", x.thing(1, 2, 0), 0);
        due("3 YEARS between are", x.thing(1, 3, 0), 2);
        due("no GAP ahead of the first", x.thing(1, 0, 0), 0);
        due("WATER less HEAT", x.thing(1, 0, 1), -2);
        due("WATER less HEAT", x.thing(1, 2, 1), -29);
        due("WATER less HEAT", x.thing(1, 4, 1), 0);
        x.set(1, 2);
        due("SEEN 2", x.make(1), 9);
        x.set(1, 4);
        due("SEEN 4", x.make(1), 7);
        due("-1", x.make(-1), -1);
        due("2", x.make(2), -1);

        promise = 12;
        x.set(1, 3);
        x.make(1);
        int[] years = {1, 1, 4, -12, 8, 8, 8, 8};
        for (int t = 0; t < 8; t++) {
            due("truth " + t, x.truth(1, t), years[t]);
        }
        due("no such", x.truth(1, 8), -1);
        due("no such", x.truth(1, -1), -1);
        due("no such candle", x.truth(2, 0), -1);
        due("BAD ahead of NOT", x.truth(0, 0), -1);
        x.put(0, 0, 1);
        due("put, there is no truth", x.truth(0, 0), -2);
        x.put(1, 1, 0);
        due("truth goes by put", x.truth(1, 0), -2);
        due("NOT ahead of CAST", x.truth(1, 3), -2);
        x.make(1);
        x.put(1, 1, 1);
        due("truth stays by a put refused", x.truth(1, 0), 1);
        x.cut(1, 8);
        due("truth stays by a cut refused", x.truth(1, 0), 1);
        x.cut(1, 7);
        due("truth goes by cut", x.truth(1, 0), -2);

        promise = 11;
        x = new DripStone();
        for (int y = 0; y < 24; y++) {
            x.rain(y, 0, y % 5 == 0 ? 1 : 0);
        }
        law(x, "*:3");
        // YEARS 0, 5, 10: 3 + GAP and 3 + GAP and 3 are 11; the next GAP is the 12th
        due("what does not fit", x.make(0), 12);
        due("the last GAP fits", x.thing(0, 11, 0), 2);
        law(x, "*:4");
        due("what does not fit", x.make(0), 12);
        due("a STONE of YEAR 10", x.truth(0, 11), 10);
        law(x, "w>9:1");
        due("nothing grows", x.make(0), 0);
    }

    private static void putCutThing() {
        promise = 13;
        DripStone x = new DripStone();
        due("stone", x.put(0, 0, 50), 0);
        due("stone", x.put(0, 0, -50), 1);
        due("dirt", x.put(0, 1, 0), 2);
        due("gap", x.put(0, 2, 0), 3);
        due("the other", x.put(1, 2, 0), 0);
        due("51", x.put(0, 0, 51), -1);
        due("-51", x.put(0, 0, -51), -1);
        due("dirt with a weight", x.put(0, 1, 1), -1);
        due("gap with a weight", x.put(0, 2, -1), -1);
        due("kind 3", x.put(0, 3, 0), -1);
        due("kind -1", x.put(0, -1, 0), -1);
        due("candle 2", x.put(2, 0, 0), -1);
        for (int t = 4; t < 12; t++) {
            due("more", x.put(0, t % 3, 0), t);
        }
        due("FULL", x.put(0, 0, 0), -3);
        due("BAD ahead of FULL", x.put(0, 0, 51), -1);

        promise = 15;
        due("kind", x.thing(0, 2, 0), 1);
        due("kind of gap", x.thing(0, 3, 0), 2);
        due("weight", x.thing(0, 1, 1), -50);
        due("dirt has none", x.thing(0, 2, 1), -1012);
        due("gap has none", x.thing(0, 3, 1), -1012);
        due("what", x.thing(0, 0, 2), -1001);
        due("what", x.thing(0, 0, -1), -1001);
        due("no such", x.thing(0, 12, 0), -1001);
        due("no such", x.thing(0, -1, 0), -1001);
        due("no such", x.thing(1, 1, 1), -1001);
        due("candle", x.thing(2, 0, 0), -1001);

        promise = 16;
        due("most", x.most(0, 4), 2);
        due("most", x.most(0, 1), 4);
        due("most 5", x.most(0, 5), -1);
        due("most 0", x.most(0, 0), -1);
        due("candle", x.most(-1, 1), -1);
        due("of the other", x.most(1, 3), 2);

        promise = 20;
        due("THINGS of 0", x.count(4), 12);
        due("THINGS of 1", x.count(5), 1);
        due("PLACES of 0", x.count(6), 12 - 1 - 3);
        due("PLACES of 1", x.count(7), 0);
        due("8", x.count(8), -1);
        due("-1", x.count(-1), -1);

        promise = 14;
        due("not there", x.cut(0, 12), -1);
        due("not there", x.cut(0, -1), -1);
        due("candle", x.cut(2, 0), -1);
        due("one", x.cut(0, 11), 11);
        due("some", x.cut(0, 3), 3);
        due("left", x.count(4), 3);
        due("all", x.cut(0, 0), 0);
        due("none is there", x.cut(0, 0), -1);
        due("the other stays", x.count(5), 1);
    }

    private static void stretchesAndDates() {
        promise = 17;
        DripStone x = stones(1, 2, 3);
        x.put(0, 2, 0);
        x.put(0, 1, 0);
        due("even", x.stretch(0, 0, 0, 2, 0), 1);
        due("of one place", x.stretch(0, 1, 4, 4, 4), 2);
        due("stopped", x.stretch(0, 2, 0, 4, 20), 3);
        due("even with n", x.stretch(0, 0, 0, 2, 1), -1);
        due("fast 0", x.stretch(0, 1, 0, 2, 0), -1);
        due("fast 5", x.stretch(0, 1, 0, 2, 5), -1);
        due("stopped 0", x.stretch(0, 2, 0, 2, 0), -1);
        due("stopped 21", x.stretch(0, 2, 0, 2, 21), -1);
        due("kind 3", x.stretch(0, 3, 0, 2, 1), -1);
        due("kind -1", x.stretch(0, -1, 0, 2, 1), -1);
        due("back", x.stretch(0, 0, 2, 1, 0), -1);
        due("not there", x.stretch(0, 0, 0, 5, 0), -1);
        due("not there", x.stretch(0, 0, -1, 2, 0), -1);
        due("candle", x.stretch(2, 0, 0, 0, 0), -1);
        due("a GAP at its end", x.stretch(0, 0, 0, 3, 0), -12);
        due("a GAP at its start", x.stretch(0, 0, 3, 4, 0), -12);
        due("BAD ahead of CAST", x.stretch(0, 0, 3, 4, 1), -1);
        due("4", x.stretch(0, 0, 0, 0, 0), 4);
        due("5", x.stretch(0, 0, 0, 0, 0), 5);
        due("6", x.stretch(0, 1, 0, 0, 1), 6);
        due("FULL", x.stretch(0, 1, 0, 0, 1), -3);
        due("CAST ahead of FULL", x.stretch(0, 0, 0, 3, 0), -12);
        x.put(1, 0, 0);
        due("the other has its own", x.stretch(1, 0, 0, 0, 0), 1);

        promise = 18;
        due("plain", x.date(0, 0, 0, 23, 0), 0);
        due("dirty", x.date(0, 4, 5, 5, 1), 1);
        due("of the other", x.date(1, 0, 3, 4, 0), 2);
        due("from above to", x.date(0, 0, 5, 4, 0), -1);
        due("from -1", x.date(0, 0, -1, 4, 0), -1);
        due("to 24", x.date(0, 0, 0, 24, 0), -1);
        due("dirty 2", x.date(0, 0, 0, 1, 2), -1);
        due("dirty -1", x.date(0, 0, 0, 1, -1), -1);
        due("dirty is held to the same", x.date(0, 0, 5, 4, 1), -1);
        due("not there", x.date(0, 5, 0, 1, 0), -1);
        due("candle", x.date(2, 0, 0, 1, 0), -1);
        due("a GAP", x.date(0, 3, 0, 1, 0), -12);
        due("BAD ahead of CAST", x.date(0, 3, 1, 0, 0), -1);
        for (int d = 3; d < 8; d++) {
            due("more", x.date(0, 0, 0, 1, 0), d);
        }
        due("FULL for both", x.date(1, 0, 0, 1, 0), -3);
        due("CAST ahead of FULL", x.date(0, 3, 0, 1, 0), -12);

        promise = 19;
        due("thrown", x.throwOut(2, 9), 0);
        due("thrown for another", x.throwOut(2, 1), 9);
        due("and another", x.throwOut(7, 5), 0);
        due("how many", x.count(1), 2);
        due("not any more", x.throwOut(2, 0), 1);
        due("how many", x.count(1), 1);
        due("how many in all", x.count(0), 8);
        due("10", x.throwOut(2, 10), -1);
        due("-1", x.throwOut(2, -1), -1);
        due("no such", x.throwOut(8, 0), -1);
        due("no such", x.throwOut(-1, 0), -1);
        due("none there", new DripStone().throwOut(0, 0), -1);
    }

    private static void numbersAnew() {
        promise = 14;
        DripStone x = stones(1, 2, 3);
        x.put(1, 0, 1);
        x.date(0, 2, 0, 1, 0);
        x.date(1, 0, 2, 3, 0);
        x.date(0, 0, 4, 5, 0);
        x.date(0, 2, 6, 7, 0);
        x.throwOut(1, 7);
        x.throwOut(2, 8);
        x.stretch(0, 0, 0, 1, 0);
        x.stretch(0, 2, 0, 2, 3);
        x.stretch(0, 0, 0, 0, 0);
        due("cut", x.cut(0, 2), 2);
        due("DATES left", x.count(0), 2);
        due("the first of them now", x.throwOut(0, 7), 7);
        due("the second", x.throwOut(1, 8), 8);
        due("STRETCHES left are 2", x.stretch(0, 0, 0, 0, 0), 3);
        // EVEN alone is left of those over both: 24 + 23
        due("STOPPED went", x.ways(0), 47);

        promise = 11;
        law(x, "*:1");
        x.rain(3, 0, 1);
        x.rain(3, 1, 4);
        due("make", x.make(0), 1);
        due("DATES left", x.count(0), 1);
        due("that of the other", x.throwOut(0, 0), 7);
        due("STRETCHES went", x.stretch(0, 0, 0, 0, 0), 1);
        due("MOST stays", x.most(0, 2), 2);
    }

    private static void ways() {
        countedWays();
        oddsAndSpans();
        nextAndMustGo();
        leansAndJudge();
        countedAnew();
    }

    private static void countedWays() {
        promise = 21;
        DripStone x = stones(1, 2, 3);
        due("three, no YEAR with three", x.ways(0), 2600 - 24);
        x.most(0, 1);
        due("three apart", x.ways(0), 2024);
        x.most(0, 4);
        due("three", x.ways(0), 2600);
        due("no PLACE", x.ways(1), -2);
        x.put(1, 2, 0);
        due("a GAP is no PLACE", x.ways(1), -2);
        due("candle", x.ways(2), -1);
        due("candle", x.ways(-1), -1);

        x = stones(1);
        x.put(0, 2, 0);
        x.put(0, 1, 0);
        due("with a GAP between", x.ways(0), 253);
        x.stretch(0, 0, 0, 2, 0);
        due("EVEN over a GAP", x.ways(0), 0);

        x = stones(1, 2);
        due("two", x.ways(0), 300);
        x.stretch(0, 0, 0, 1, 0);
        due("EVEN", x.ways(0), 24 + 23);
        x = stones(1, 2);
        x.stretch(0, 2, 0, 1, 5);
        due("STOPPED", x.ways(0), 190);
        x.stretch(0, 2, 0, 1, 20);
        due("STOPPED twice", x.ways(0), 10);
        x.stretch(0, 0, 0, 1, 0);
        due("STOPPED and EVEN", x.ways(0), 0);
        x = stones(1, 2, 3);
        x.stretch(0, 1, 0, 2, 2);
        due("FAST 2", x.ways(0), 23);
        x.most(0, 3);
        due("FAST 2, MOST 3", x.ways(0), 23 + 24);
        x = stones(1, 2, 3);
        x.stretch(0, 1, 1, 2, 2);
        due("FAST: the earlier YEAR's PLACES ahead of it count", x.ways(0), 23 + 276);
        x = stones(1, 2, 3);
        x.stretch(0, 0, 1, 1, 0);
        due("a STRETCH of one PLACE binds nothing", x.ways(0), 2576);

        x = stones(1);
        due("one", x.ways(0), 24);
        x.date(0, 0, 3, 7, 0);
        due("PLAIN", x.ways(0), 5);
        x.date(0, 0, 6, 6, 1);
        due("DIRTY: 6 or later", x.ways(0), 2);
        x.throwOut(0, 1);
        due("THROWN", x.ways(0), 18);
        x.throwOut(1, 1);
        due("both THROWN", x.ways(0), 24);
        x = stones(0, 0, 0, 0, 0, 0, 0, 0, 0, 0, 0, 0);
        x.most(0, 4);
        // rows of 12 of 24 YEARS that never go back, less those with five or more of one YEAR
        due("twelve", x.ways(0), 834451800L - 24 * 2035800L + 276 * 300L);
        x.stretch(0, 1, 0, 11, 4);
        // runs of four, and what is left at the end: 3 YEARS in a row
        due("twelve by fours", x.ways(0), 22);
    }

    private static void oddsAndSpans() {
        promise = 22;
        DripStone x = stones(1);
        x.put(0, 2, 0);
        x.put(0, 0, 5);
        x.put(0, 1, 0);
        x.date(0, 0, 4, 6, 0);
        due("least", x.ends(0, 0, 0), 4);
        due("most", x.ends(0, 0, 1), 6);
        due("least behind the GAP", x.ends(0, 2, 0), 6);
        due("most behind the GAP", x.ends(0, 2, 1), 23);
        due("a GAP", x.ends(0, 1, 0), -12);
        due("not there", x.ends(0, 4, 0), -1);
        due("what", x.ends(0, 0, 2), -1);
        due("BAD ahead of CAST", x.ends(0, 1, 2), -1);
        x.date(0, 3, 0, 5, 0);
        due("NONE", x.ends(0, 0, 0), -4);
        due("CAST ahead of NONE", x.ends(0, 1, 0), -12);

        DripStone last = stones(1, 2);
        last.date(0, 0, 23, 23, 0);
        due("the last YEAR, least", last.ends(0, 1, 0), 23);
        due("the last YEAR, most", last.ends(0, 1, 1), 23);
        DripStone all = stones(1, 2);
        all.date(0, 0, 0, 0, 0);
        all.date(0, 1, 23, 23, 0);
        due("the first YEAR, most", all.ends(0, 0, 1), 0);
        promise = 24;
        due("23 apart at least", all.span(0, 0, 1, 0), 23);
        due("23 apart at most", all.span(0, 0, 1, 1), 23);

        promise = 23;
        due("NONE", x.odds(0, 0, 4, 0), -4);
        x = stones(1, 2);
        due("above", x.odds(0, 0, 0, 0), 2);
        due("below", x.odds(0, 0, 0, 1), 25);
        due("of the last", x.odds(0, 1, 23, 0), 2);
        due("0 above", x.odds(0, 1, 0, 0), 1);
        due("0 below", x.odds(0, 1, 0, 1), 300);
        x.date(0, 0, 9, 9, 0);
        due("never above", x.odds(0, 1, 8, 0), 0);
        due("never below", x.odds(0, 1, 8, 1), 1);
        due("always above", x.odds(0, 0, 9, 0), 1);
        due("always below", x.odds(0, 0, 9, 1), 1);
        due("year", x.odds(0, 0, 24, 0), -1);
        due("year", x.odds(0, 0, -1, 0), -1);
        due("what", x.odds(0, 0, 0, 2), -1);
        due("thing", x.odds(0, 2, 0, 0), -1);
        x.put(0, 2, 0);
        due("gap", x.odds(0, 2, 0, 0), -12);

        promise = 24;
        x = stones(1, 2, 3);
        x.put(0, 2, 0);
        x.put(0, 1, 0);
        x.stretch(0, 2, 0, 1, 4);
        x.date(0, 4, 0, 20, 0);
        due("at least", x.span(0, 0, 2, 0), 4);
        due("at most", x.span(0, 0, 2, 1), 18);
        due("over all at least", x.span(0, 0, 4, 0), 6);
        due("over all at most", x.span(0, 0, 4, 1), 20);
        due("neighbours", x.span(0, 1, 2, 0), 0);
        due("same", x.span(0, 1, 1, 0), -1);
        due("not behind", x.span(0, 2, 1, 0), -1);
        due("not there", x.span(0, 2, 5, 0), -1);
        due("what", x.span(0, 0, 1, 2), -1);
        due("a GAP", x.span(0, 0, 3, 0), -12);
        due("a GAP", x.span(0, 3, 4, 0), -12);
        x.date(0, 0, 20, 20, 0);
        due("NONE", x.span(0, 0, 1, 0), -4);

        promise = 25;
        due("NONE", x.apart(0, 0, 1, 0, 0), -4);
        x = stones(1, 2);
        // of 300 WAYS 253 have them 2 or more apart, one 23
        due("2 above", x.apart(0, 0, 1, 2, 0), 253);
        due("2 below", x.apart(0, 0, 1, 2, 1), 300);
        due("23 above", x.apart(0, 0, 1, 23, 0), 1);
        due("0 above", x.apart(0, 0, 1, 0, 0), 1);
        due("0 below", x.apart(0, 0, 1, 0, 1), 1);
        x.date(0, 1, 0, 3, 0);
        due("4 above", x.apart(0, 0, 1, 4, 0), 0);
        due("4 below", x.apart(0, 0, 1, 4, 1), 1);
        due("n 24", x.apart(0, 0, 1, 24, 0), -1);
        due("n -1", x.apart(0, 0, 1, -1, 0), -1);
        due("what", x.apart(0, 0, 1, 0, 2), -1);
        due("not behind", x.apart(0, 1, 0, 0, 0), -1);
        x.put(0, 2, 0);
        due("a GAP", x.apart(0, 0, 2, 0, 0), -12);
        due("BAD ahead of CAST", x.apart(0, 0, 2, 24, 0), -1);
    }

    private static void nextAndMustGo() {
        promise = 26;
        DripStone x = new DripStone();
        due("no PLACE", x.next(0, 0), -2);
        x.put(0, 2, 0);
        due("no PLACE", x.next(0, 0), -2);
        x.put(0, 0, 1);
        x.put(0, 1, 0);
        // each of the two has a YEAR with 24 of the 300
        due("of like ones the first", x.next(0, 0), 1);
        due("at worst", x.next(0, 1), 24);
        x.date(0, 1, 5, 6, 0);
        // 19 and 18 by the YEAR of the first, at most 2 by that of the other
        due("the other", x.next(0, 0), 2);
        due("at worst", x.next(0, 1), 2);
        due("what", x.next(0, 2), -1);
        due("what", x.next(0, -1), -1);
        due("candle", x.next(2, 0), -1);
        x.date(0, 2, 0, 1, 0);
        due("no WAY", x.next(0, 1), -4);

        promise = 27;
        due("the least bits of like ones", x.mustGo(0), 1);
        x.throwOut(0, 3);
        due("none", x.mustGo(0), 0);
        x.throwOut(0, 0);
        x.put(1, 0, 1);
        x.date(1, 0, 3, 3, 0);
        x.date(0, 1, 6, 7, 0);
        due("one of 0, 1, 3: the DATE 1", x.mustGo(0), 2);
        due("the other has its own", x.mustGo(1), 0);
        x.date(1, 0, 4, 4, 0);
        due("the least bits", x.mustGo(1), 4);
        x.date(1, 0, 5, 5, 0);
        due("two", x.mustGo(1), 4 + 16);
        x.throwOut(2, 1);
        due("one that is THROWN is not among them", x.mustGo(1), 16);
        due("candle", x.mustGo(2), -1);
        due("no PLACE", new DripStone().mustGo(0), -2);
        x = stones(1, 2);
        x.stretch(0, 2, 0, 1, 3);
        x.stretch(0, 0, 0, 1, 0);
        due("no WAY without all", x.mustGo(0), -4);
        x.date(0, 0, 1, 1, 0);
        due("no WAY without all", x.mustGo(0), -4);
        x = stones(1, 2, 3);
        x.stretch(0, 2, 0, 1, 11);
        x.stretch(0, 2, 1, 2, 12);
        due("one WAY", x.mustGo(0), 0);
        for (int d = 0; d < 8; d++) {
            x.date(0, 0, 5, 6, 0);
            due("all of them", x.mustGo(0), (2 << d) - 1);
        }
        due("nothing was THROWN", x.count(1), 0);
    }

    /** Questions between changes: each change must be seen by the next question. */
    private static void countedAnew() {
        promise = 21;
        DripStone x = stones(1);
        due("one", x.ways(0), 24);
        x.put(0, 0, 1);
        due("put", x.ways(0), 300);
        x.most(0, 1);
        due("most", x.ways(0), 276);
        x.stretch(0, 0, 0, 1, 0);
        due("stretch", x.ways(0), 23);
        x.date(0, 1, 0, 4, 0);
        due("date", x.ways(0), 4);
        due("mustGo", x.mustGo(0), 0);
        due("behind mustGo", x.ways(0), 4);
        due("leans", x.leans(0, 1, 1), 19);
        due("behind leans", x.ways(0), 4);
        x.image();
        x.throwOut(0, 1);
        due("throwOut", x.ways(0), 23);
        x.throwOut(0, 0);
        due("throwOut of none", x.ways(0), 4);
        x.cut(0, 1);
        due("cut", x.ways(0), 24);
        x.restore();
        due("restore", x.ways(0), 4);
        x.put(1, 0, 1);
        x.date(1, 0, 2, 2, 0);
        due("the other", x.ways(1), 1);
        due("this one", x.ways(0), 4);
        x.throwOut(1, 1);
        due("a DATE of the other", x.ways(1), 24);
        x.rain(5, 0, 1);
        law(x, "*:2");
        x.make(0);
        x.most(0, 2);
        due("make", x.ways(0), 300);
        x.ways(1);
        x.restore();
        due("restore, no PLACE", x.ways(1), -2);
        due("restore", x.ways(0), 4);
    }

    private static void leansAndJudge() {
        promise = 28;
        DripStone x = stones(1, 2);
        x.put(0, 2, 0);
        x.date(0, 0, 5, 9, 0);
        x.date(0, 1, 7, 11, 0);
        due("least", x.leans(0, 0, 0), 0 - 5);
        due("most", x.leans(0, 0, 1), 11 - 9);
        due("least of the other", x.leans(0, 1, 0), 0);
        due("most of the first", x.leans(1, 0, 1), 0);
        due("most of the other", x.leans(1, 1, 1), 23 - 11);
        x.throwOut(1, 4);
        due("THROWN: as if it was not", x.leans(1, 1, 1), 23 - 11);
        due("THROWN: by the other alone", x.leans(0, 1, 0), 0 - 5);
        due("it stays THROWN", x.throwOut(1, 4), 4);
        due("date", x.leans(2, 0, 0), -1001);
        due("date", x.leans(-1, 0, 0), -1001);
        due("thing", x.leans(0, 3, 0), -1001);
        due("what", x.leans(0, 0, 2), -1001);
        due("a GAP", x.leans(0, 2, 0), -1012);
        due("BAD ahead of CAST", x.leans(0, 2, 2), -1001);
        x.date(0, 0, 20, 20, 0);
        due("no WAY with it", x.leans(2, 0, 0), -1004);
        x.date(0, 0, 22, 22, 0);
        due("no WAY without it", x.leans(1, 0, 0), -1004);
        due("CAST ahead of NONE", x.leans(1, 2, 0), -1012);

        promise = 29;
        x = stones(1, 2, 3);
        x.put(0, 2, 0);
        x.put(0, 1, 0);
        x.stretch(0, 1, 0, 2, 2);
        x.date(0, 4, 10, 12, 0);
        x.date(0, 4, 11, 11, 1);
        int[][] told = {{5, 5, 6, 11, -4}, {5, 6, 6, 11, 1}, {5, 5, 7, 11, 2}, {5, 5, 5, 11, 2}, {5, 5, 4, 11, 2},
            {5, 5, 6, 10, 4}, {5, 5, 6, 13, 4}, {5, 5, 6, 7, 4}, {11, 11, 12, 12, 4}, {9, 9, 10, 11, 4},
            {24, 5, 6, 11, 0}, {-1, 5, 6, 11, 0}, {5, 5, 6, 24, 4}, {23, 23, 24, 11, 2}, {5, MIN, 6, 11, 1},
            {MIN, MAX, 6, 11, 0}};
        for (int[] t : told) {
            fill(x, 0, 2, t);
            due("judge " + java.util.Arrays.toString(t), x.judge(0, 0, 2, 0), t[4]);
        }
        fill(x, 0, 0, 99, 99, 5, 5, 6, 12);
        due("from one on", x.judge(0, 0, 0, 2), -4);
        due("INDEX", x.judge(0, 0, 0, 3), -13);
        due("INDEX", x.judge(0, 0, 0, -1), -13);
        due("INDEX", x.judge(0, 0, 0, MAX), -13);
        due("CAST", x.judge(0, 0, 1, 9), -12);
        due("NULL", x.judge(0, 1, 0, 0), -11);
        due("NOT ahead of NULL", x.judge(1, 1, 0, 0), -2);
        due("BAD ahead of NOT", x.judge(1, 4, 0, 0), -1);
        due("lane", x.judge(0, 0, 3, 0), -1);
        due("candle", x.judge(2, 0, 0, 0), -1);
        x.throwOut(0, 1);
        fill(x, 0, 0, 5, 5, 6, 13);
        due("THROWN does not bind", x.judge(0, 0, 0, 0), -4);
        x.throwOut(1, 1);
        fill(x, 0, 0, 5, 5, 6, 8);
        due("nor the other", x.judge(0, 0, 0, 0), -4);
    }

    private static void twoCandlesClaimsCauses() {
        oneYearAndTie();
        chances();
        lookedAndHolds();
        causes();
    }

    private static void oneYearAndTie() {
        promise = 30;
        DripStone x = stones(1);
        due("not there", x.oneYear(0, 0, 0), -1);
        x.put(1, 2, 0);
        x.put(1, 0, 1);
        x.date(0, 0, 0, 3, 0);
        x.date(1, 1, 2, 5, 0);
        due("above", x.oneYear(0, 1, 0), 1);
        due("below", x.oneYear(0, 1, 1), 8);
        due("a GAP", x.oneYear(0, 0, 0), -12);
        due("what", x.oneYear(0, 1, 2), -1);
        due("thing", x.oneYear(1, 1, 0), -1);
        due("thing", x.oneYear(0, 2, 0), -1);
        due("BAD ahead of CAST", x.oneYear(0, 0, 2), -1);
        x.date(0, 0, 4, 9, 0);
        due("NONE", x.oneYear(0, 1, 0), -4);
        due("CAST ahead of NONE", x.oneYear(0, 0, 0), -12);
        x.throwOut(0, 1);
        x.throwOut(1, 1);
        x.date(1, 1, 2, 2, 0);
        due("never above", x.oneYear(0, 1, 0), 0);
        due("never below", x.oneYear(0, 1, 1), 1);

        promise = 31;
        x = stones(1, 2);
        due("no PLACE", x.tie(0), -2);
        x.put(1, 2, 0);
        due("no PLACE", x.tie(0), -2);
        x.put(1, 1, 0);
        x.put(1, 0, 0);
        x.date(0, 0, 3, 4, 0);
        x.date(0, 1, 4, 5, 0);
        x.date(1, 1, 1, 2, 0);
        x.date(1, 2, 4, 4, 0);
        // candle 0: (3,4) (3,5) (4,4) (4,5); candle 1: (1,4) (2,4): first and second have 4 twice each
        due("of 0", x.tie(0), 0);
        due("of 1", x.tie(1), 2);
        due("how many", x.tie(2), 4);
        due("3", x.tie(3), -1);
        due("-1", x.tie(-1), -1);
        x.date(0, 0, 3, 3, 0);
        due("of 0", x.tie(0), 1);
        due("how many", x.tie(2), 2);
        x.date(1, 2, 5, 5, 0);
        due("NONE", x.tie(0), -4);
        x = stones(0);
        x.put(1, 0, 0);
        x.date(0, 0, 0, 0, 0);
        x.date(1, 0, 1, 1, 0);
        due("never together: the first", x.tie(0) + x.tie(1) + x.tie(2), 0);
    }

    private static void chances() {
        promise = 33;
        DripStone x = stones(5, -5);
        String[] told = {"*@0-0#1", "w<0@0-0#1", "!w<0@0-0#1", "w>4@0-0#1&w<0@23-23#1"};
        long[][] odds = {{2, 25}, {1, 300}, {299, 300}, {1, 300}};
        for (int i = 0; i < 4; i++) {
            due("claim", claim(x, told[i]), i);
            due(told[i], x.chance(i, 0, 0), odds[i][0]);
            due(told[i], x.chance(i, 0, 1), odds[i][1]);
        }
        due("claim", x.chance(4, 0, 0), -1);
        due("claim", x.chance(-1, 0, 0), -1);
        due("candle", x.chance(0, 2, 0), -1);
        due("what", x.chance(0, 0, 2), -1);
        due("no PLACE", x.chance(0, 1, 0), -2);
        x.date(0, 1, 0, 0, 0);
        x.date(0, 0, 1, 1, 0);
        due("no WAY", x.chance(0, 0, 0), -4);
        x = stones(5, -5);
        String[] more = {"w>4@0-0#1|w<0@23-23#1", "*@0-23#2", "*@0-23#3", "w>5@0-23#1|w<-5@0-23#1"};
        long[][] moreOdds = {{47, 300}, {1, 1}, {0, 1}, {0, 1}};
        for (int i = 0; i < 4; i++) {
            claim(x, more[i]);
            due(more[i], x.chance(i, 0, 0), moreOdds[i][0]);
            due(more[i], x.chance(i, 0, 1), moreOdds[i][1]);
        }
        x.put(0, 1, 0);
        due("DIRT is a PLACE", x.chance(2, 0, 0), 1);
        x.put(1, 1, 0);
        due("DIRT has no WEIGHT", x.chance(3, 1, 0), 0);
        x = stones(0, 0, 0);
        claim(x, "!*@0-3#1&!*@8-23#1");
        x.most(0, 4);
        // all three in 4 .. 7: 20 of 2600
        due("none elsewhere", x.chance(0, 0, 0), 1);
        due("none elsewhere", x.chance(0, 0, 1), 130);
        x = stones(0, 0, 0, 0, 0, 0, 0, 0, 0, 0, 0, 0);
        claim(x, "*@0-11#12|*@12-23#12");
        claim(x, "!*@0-11#12&!*@12-23#12");
        due("both sum to all", x.chance(0, 0, 1), x.chance(1, 0, 1));
        due("both sum to all", x.chance(0, 0, 0) + x.chance(1, 0, 0), x.chance(0, 0, 1));
    }

    private static void lookedAndHolds() {
        promise = 35;
        DripStone x = stones(5, -5);
        claim(x, "*@0-0#1");
        claim(x, "w>0@2-3#1&w<0@9-20#1");
        claim(x, "*@23-23#1");
        due("shifts", x.looked(0, 0, 1, 2, 0), 24);
        due("all as likely", x.looked(0, 0, 2, 25, 1), 24);
        due("more likely", x.looked(0, 0, 81, 1000, 1), 0);
        due("any", x.looked(0, 0, 0, 1, 1), 24);
        due("sure", x.looked(0, 0, 1, 1, 1), 0);
        due("shifts of two", x.looked(1, 0, 1, 2, 0), 4);
        // 2 * 12 of 300 by each shift
        due("of two", x.looked(1, 0, 2, 25, 1), 4);
        due("no shift", x.looked(2, 0, 1, 2, 0), 1);
        x.date(0, 0, 7, 7, 0);
        x.date(0, 1, 7, 8, 0);
        due("YEARS 7 and, by half, 8", x.looked(0, 0, 1, 2, 1), 2);
        due("YEAR 7", x.looked(0, 0, 1, 1, 1), 1);
        due("p above q", x.looked(0, 0, 3, 2, 1), -1);
        due("p", x.looked(0, 0, -1, 2, 1), -1);
        due("q", x.looked(0, 0, 0, 0, 1), -1);
        due("q 1000", x.looked(0, 0, 1000, 1000, 1), 1);
        due("q 1001", x.looked(0, 0, 1, 1001, 1), -1);
        due("what", x.looked(0, 0, 1, 2, 2), -1);
        due("claim", x.looked(3, 0, 1, 2, 0), -1);
        due("candle", x.looked(0, 2, 1, 2, 0), -1);
        due("no PLACE", x.looked(0, 1, 1, 2, 0), -2);
        x.date(0, 0, 8, 8, 0);
        due("no WAY", x.looked(0, 0, 1, 2, 0), -4);
        due("no WAY", x.looked(0, 0, 1, 2, 1), -4);

        promise = 34;
        x = new DripStone();
        claim(x, "w<0@2-3#2&!w>0@0-22#2");
        claim(x, "*@0-1#1|*@7-7#1");
        due("no TRUTH", x.holds(0, 0), -2);
        x.rain(2, 0, 1);
        x.rain(2, 1, -1);
        x.rain(9, 0, 1);
        x.rain(9, 1, 1);
        law(x, "*:2");
        due("make", x.make(0), 5);
        due("not so: two above 0 in 9", x.holds(0, 0), 0);
        due("not so", x.holds(1, 0), 0);
        x.rain(9, 2, 1);
        x.rain(1, 0, 1);
        x.make(1);
        due("so", x.holds(0, 1), 1);
        due("so by the first", x.holds(1, 1), 1);
        due("by candle 0 as before", x.holds(1, 0), 0);
        due("claim", x.holds(2, 0), -1);
        due("claim", x.holds(-1, 0), -1);
        due("candle", x.holds(0, 2), -1);
        x.put(1, 0, 0);
        due("no TRUTH any more", x.holds(0, 1), -2);
    }

    private static void causes() {
        promise = 36;
        DripStone x = stones(0, 5, -3);
        due("none at all", x.says(0, 0, 1, 0), 0);
        due("cause", x.cause(-30, -30), 0);
        due("cause", x.cause(2, 6), 1);
        due("cause", x.cause(0, 1), 2);
        due("cause", x.cause(4, 30), 3);
        due("high", x.cause(0, 31), -1);
        due("low", x.cause(-31, 0), -1);
        due("low above high", x.cause(1, 0), -1);
        due("how many", x.count(3), 4);
        due("cause", x.cause(30, 30), 4);
        due("FULL", x.cause(0, 0), -3);
        due("BAD ahead of FULL", x.cause(1, 0), -1);

        promise = 37;
        x = stones(0, 5, -3);
        x.put(0, 1, 0);
        x.put(0, 2, 0);
        x.put(0, 0, 40);
        x.cause(2, 6);
        x.cause(0, 1);
        x.cause(4, 30);
        // 5: {0}, {0,1}, {2}, {1,2}
        due("sets", x.says(0, 0, 1, 0), 4);
        due("the fewest, the least bits", x.says(0, 0, 1, 1), 1);
        due("in all", x.says(0, 0, 1, 2), 0);
        due("a change down", x.says(0, 1, 2, 0), 0);
        due("by none", x.says(0, 1, 2, 1), -4);
        due("by none", x.says(0, 1, 2, 2), -4);
        // 35: {0,2}, {0,1,2}
        due("of more", x.says(0, 1, 5, 0), 2);
        due("of more, the fewest", x.says(0, 1, 5, 1), 5);
        due("of more, in all", x.says(0, 1, 5, 2), 5);
        due("DIRT", x.says(0, 0, 3, 0), -12);
        due("GAP", x.says(0, 4, 5, 0), -12);
        due("same", x.says(0, 1, 1, 0), -1);
        due("back", x.says(0, 1, 0, 0), -1);
        due("not there", x.says(0, 1, 6, 0), -1);
        due("what", x.says(0, 0, 1, 3), -1);
        due("what", x.says(0, 0, 1, -1), -1);
        due("candle", x.says(2, 0, 1, 0), -1);
        due("BAD ahead of CAST", x.says(0, 0, 3, 3), -1);
    }

    private static void imagesAndSheets() {
        promise = 38;
        DripStone x = new DripStone();
        due("image", x.image(), 1);
        fillAll(x);
        promise = 39;
        due("restore", x.restore(), 1);
        for (int what = 0; what < 8; what++) {
            due("nothing as at first", x.count(what), 0);
        }
        due("no LAW", x.make(0), -2);
        due("K", x.set(0, 1), 1);
        due("SEEN", x.set(1, 3), 3);
        due("MOST", x.most(0, 2), 2);
        due("rain", x.rain(0, 0, 0), 0);
        due("SHEETS stay", x.drop(1), 3);
        due("THE TAPE stays", x.type('b', 1), 2);
        promise = 38;
        x = new DripStone();
        fillAll(x);
        x.image();
        changeAll(x);
        promise = 39;
        due("restore", x.restore(), 1);
        restored(x);
        changeAll(x);
        due("restore again", x.restore(), 1);
        restored(x);
        due("none yet", new DripStone().restore(), -4);
        sheets();
    }

    private static void fillAll(DripStone x) {
        x.rain(0, 0, 1);
        x.rain(0, 1, 5);
        x.rain(6, 0, 2);
        x.rain(6, 2, 1);
        x.set(0, 3);
        x.set(1, 4);
        law(x, "*:1");
        x.make(0);
        x.put(1, 1, 0);
        x.put(1, 0, 9);
        x.most(0, 4);
        x.stretch(0, 2, 0, 1, 4);
        x.date(0, 1, 1, 4, 0);
        x.date(1, 0, 2, 2, 0);
        x.throwOut(0, 6);
        claim(x, "*@0-0#1");
        x.cause(1, 2);
        x.sheet(1, 0, 3);
        x.type('a', 1);
    }

    private static void changeAll(DripStone x) {
        x.rain(0, 0, 7);
        x.rain(0, 1, 7);
        x.rain(6, 2, 7);
        x.set(0, 1);
        x.set(1, 1);
        x.law();
        law(x, "*:2");
        x.put(0, 0, 1);
        x.make(1);
        x.most(0, 1);
        x.cut(0, 1);
        x.throwOut(0, 1);
        claim(x, "*@5-5#1");
        x.cause(3, 4);
        x.drop(1);
    }

    private static void restored(DripStone x) {
        due("amount", x.rain(0, 0, 1), 1);
        due("weight", x.rain(0, 1, 5), 5);
        due("heat", x.rain(6, 2, 1), 1);
        due("K", x.set(0, 3), 3);
        due("SEEN", x.set(1, 4), 4);
        due("THE LAW", x.grows(0), 1);
        int[] counts = {2, 1, 1, 1, 6, 2, 6, 2};
        for (int what = 0; what < 8; what++) {
            due("count " + what, x.count(what), counts[what]);
        }
        due("TRUTH", x.truth(0, 0), 0);
        due("WEIGHT", x.thing(1, 1, 1), 9);
        due("MOST", x.most(0, 4), 4);
        due("STRETCHES", x.span(0, 0, 1, 0), 4);
        due("reason", x.throwOut(0, 6), 6);
        due("DATE of 1", x.ends(1, 0, 1), 2);
        due("CLAIM", x.looked(0, 1, 0, 1, 0), 24);
        due("SHEETS stay", x.drop(1), -11);
    }

    private static void sheets() {
        promise = 40;
        DripStone x = new DripStone();
        due("bytes", x.sheet(0, 0, 24), 24);
        due("shorts", x.sheet(3, 1, 0), 0);
        due("25", x.sheet(0, 0, 25), -1);
        due("-1", x.sheet(0, 0, -1), -14);
        due("far below", x.sheet(0, 0, MIN), -14);
        due("far above", x.sheet(0, 0, MAX), -1);
        due("BAD ahead of SIZE", x.sheet(4, 0, -1), -1);
        due("BAD ahead of SIZE", x.sheet(0, 3, -1), -1);
        due("sheet", x.sheet(-1, 0, 1), -1);
        due("lane", x.sheet(0, -1, 1), -1);
        due("refused, it stays", x.item(0, 0, 23, 9), 1);
        due("a new row", x.sheet(0, 0, 24), 24);
        due("holds 0", x.rains(0, 0, 0, 23, 1), 1);
        due("year 0", x.rain(0, 0, 0), 0);

        promise = 41;
        due("drop", x.drop(0), 24);
        due("NULL", x.drop(0), -11);
        due("drop none", x.drop(3), 0);
        due("NULL", x.drop(3), -11);
        due("4", x.drop(4), -1);
        due("-1", x.drop(-1), -1);

        promise = 42;
        for (int lane = 0; lane < 3; lane++) {
            x.sheet(lane, lane, 2);
            due("item", x.item(lane, lane, 1, 65536 + 256 + 9), 1);
        }
        due("of a byte the lowest bits", x.rains(0, 0, 0, 1, 1), 1);
        due("which are", x.rain(0, 0, 0), 9);
        due("of a short they are 265", x.rains(0, 1, 1, 1, 1), -2);
        x.item(1, 1, 1, 65536 + 7);
        due("of a short", x.rains(0, 1, 1, 1, 1), 1);
        due("which are", x.rain(0, 0, 0), 7);
        x.item(2, 2, 1, 65536 + 7);
        due("of an int all", x.rains(0, 2, 2, 1, 1), -2);
        x.item(0, 0, 0, 255);
        due("a byte has a sign", x.rains(1, 0, 0, 0, 1), 1);
        due("which is", x.rain(0, 1, 0), -1);
        x.item(1, 1, 0, 65535);
        due("a short has a sign", x.rains(1, 1, 1, 0, 1), 1);
        due("which is", x.rain(0, 1, 0), -1);
        due("INDEX", x.item(0, 0, 2, 1), -13);
        due("INDEX", x.item(0, 0, -1, 1), -13);
        due("INDEX", x.item(0, 0, MIN, 1), -13);
        due("CAST ahead of INDEX", x.item(0, 1, 2, 1), -12);
        due("NULL ahead of all but BAD", x.item(3, 1, 2, 1), -11);
        due("lane", x.item(3, 3, 2, 1), -1);
        due("sheet", x.item(4, 0, 0, 1), -1);
    }
}
