/** Promises 33 to 40 and their part of Terms 3, sentence by sentence: the order seen, rain, shares, what is most and left. */
final class BoundsOfOdds {
    private static final int NONE = SaintCarried.NONE;
    private static final int HIDDEN = SaintCarried.HIDDEN;
    private static final int LEAST = Integer.MIN_VALUE;
    private static final int MOST = Integer.MAX_VALUE;
    private static final int[] FAR = {LEAST, -1000000, -2, MOST - 1, MOST};
    private static final int ALL = 1000000000;
    private static final String SEVEN = "hx1g1;hx2g1;hx3g1;hx4g1;hx5g1;hx6g1;hx7g1;b;st99";

    private BoundsOfOdds() {
    }

    static void runAll() {
        seen();
        seenRefused();
        who();
        whoMore();
        whoRefused();
        odds();
        oddsRain();
        oddsParts();
        oddsRefused();
        shares();
        hardest();
        nearest();
        farthest();
        bits();
        left();
        years();
        waits();
        remains();
    }

    // ---- 33 and 34: SEEN, WHO ----

    private static void seen() {
        Sentence s = Sentence.of(33, "SEEN (10 at most): in the ORDER as told at first the i-th (0 .. 6) was a HOUSE, or was not.");
        SaintCarried x = Check.town(SEVEN);
        s.due("i -1", x.seen(-1, 0, true), NONE);
        s.due("i 7", x.seen(7, 0, true), NONE);
        s.due("none yet", x.count(13), 0);
        s.due("all is so", x.who(1, NONE), 8);
        s.due("i 0", x.seen(0, 0, true), 1);
        s.due("i 6", x.seen(6, 6, true), 2);
        s.due("one of the last, and none", x.who(1, NONE), 2);
        s.due("the last", x.who(1, 0), 6);
        s.due("none", x.who(1, 1), 9);
        for (int i = 3; i <= 10; i++) {
            s.due("to ten", x.seen(0, 6, false), i);
        }
        s.due("an eleventh", x.seen(0, 6, false), NONE);
        s.due("ten", x.count(13), 10);
        SaintCarried told = Check.town("se9;hx1g3;hx2g4;hx3g0;b");
        told.seen(0, 0, true);
        told.carry(1);
        told.gift(0, 3);
        told.year();
        s.due("as told at first: 0, 1 and none", told.who(1, NONE), 3);
        SaintCarried few = Check.town("hx1g3;hx2g0;b");
        few.seen(1, 1, false);
        s.due("not the second, as there is none", few.who(4, NONE), 2);
        few.seen(6, 0, false);
        s.due("not the seventh, as there is none", few.who(4, NONE), 2);
        few.seen(1, 0, true);
        s.due("the second behind one with more", few.who(2, NONE), 1);
        s.due("that one", few.who(2, 0), 1);
        few.seen(6, 1, true);
        s.due("the seventh, as there is none", few.who(2, NONE), 0);
    }

    private static void seenRefused() {
        Sentence s = Sentence.of(33, "SEEN: how many there are. NONE: no such HOUSE, i out of bounds, there are ten.");
        SaintCarried x = Check.town("hx1g3;hx2g4;b");
        s.due("behind the last", x.seen(0, 2, true), NONE);
        s.due("HOUSE -1", x.seen(0, -1, true), NONE);
        s.due("no TOWN", new SaintCarried().seen(0, 0, true), NONE);
        for (int far : FAR) {
            s.due("HOUSE " + far, x.seen(0, far, true), NONE);
            s.due("i " + far, x.seen(far, 0, true), NONE);
        }
        s.due("none of them is told", x.who(1, NONE), 3);
        for (int i = 1; i <= 10; i++) {
            s.due("how many", x.seen(0, 0, true), i);
        }
        s.due("an eleventh, was", x.seen(0, 1, true), NONE);
        s.due("an eleventh, was not", x.seen(0, 0, false), NONE);
        s.due("the eleventh is not told", x.who(1, NONE), 3);
    }

    private static void who() {
        Sentence s = Sentence.of(34, "HOUSES (one) with GRIEVANCE told g more (30 at most) by which all SEEN is so, and 9, if it is so with none");
        SaintCarried x = Check.town("hx1g3;hx2g5;hx3g9;b");
        s.due("none SEEN: all, and 9", x.who(1, NONE), 4);
        int[] all = {0, 1, 2, 9};
        for (int i = 0; i < 4; i++) {
            s.due("rising", x.who(1, i), all[i]);
        }
        x.seen(0, 1, true);
        s.due("g 2: alike, the lowest first", x.who(2, NONE), 0);
        s.due("g 3", x.who(3, NONE), 1);
        s.due("g 3: it", x.who(3, 0), 0);
        x.seen(2, 0, true);
        s.due("g 6: alike, the lowest first", x.who(6, NONE), 0);
        s.due("g 7", x.who(7, 0), 0);
        s.due("g 9", x.who(9, NONE), 1);
        SaintCarried y = Check.town("hx1g3;hx2g5;hx3g9;b");
        y.seen(0, 0, false);
        s.due("not so with none", y.who(9, NONE), 1);
        s.due("not so with none: it", y.who(9, 0), 0);
        SaintCarried z = Check.town("hx1g3;hx2g5;hx3g0;b");
        z.seen(0, 2, true);
        s.due("one of 0 has 1 then", z.who(1, 0), 2);
        s.due("one of 0 has 3: alike", z.who(3, NONE), 0);
    }

    private static void whoMore() {
        Sentence s = Sentence.of(34, "(30 at most)");
        SaintCarried x = Check.town("hx1g28;hx2g30;b");
        x.seen(1, 0, true);
        s.due("28 and 2 is 30: alike", x.who(2, NONE), 0);
        s.due("28 and 3 is 30: alike", x.who(3, NONE), 0);
        s.due("28 and 9 is 30: alike", x.who(9, NONE), 0);
        SaintCarried y = Check.town("hx1g30;hx2g28;b");
        y.seen(0, 0, true);
        s.due("28 and 1 is 29", y.who(1, NONE), 0);
        s.due("28 and 2 is 30: alike, the lowest first", y.who(2, 0), 1);
        s.due("28 and 9 is 30: alike, the lowest first", y.who(9, NONE), 1);
        SaintCarried z = Check.town("hx1g30;hx2g30;b");
        z.seen(0, 0, true);
        s.due("30 and 9 is 30: alike, the lowest first", z.who(9, NONE), 3);
    }

    private static void whoRefused() {
        Sentence s = Sentence.of(34, "WHO for g (1 .. 9)");
        SaintCarried x = Check.town("hx1g1;hx2g9;b");
        x.seen(1, 0, true);
        s.due("g 0", x.who(0, NONE), NONE);
        s.due("g 1", x.who(1, NONE), 0);
        s.due("g 8", x.who(8, NONE), 0);
        s.due("g 9", x.who(9, NONE), 1);
        s.due("g 10", x.who(10, NONE), NONE);
        s.due("g -1", x.who(-1, NONE), NONE);
        Sentence none = Sentence.of(34, "WHO: how many (i NONE), the i-th. NONE: no such one, no TOWN, out of bounds.");
        none.due("i 0", x.who(9, 0), 0);
        none.due("i 1", x.who(9, 1), NONE);
        none.due("i -2", x.who(9, -2), NONE);
        none.due("no TOWN", new SaintCarried().who(1, NONE), NONE);
        SaintCarried all = Check.town(SEVEN);
        for (int i = 0; i <= 7; i++) {
            none.due("of seven, i " + i, all.who(1, i), i == 7 ? 9 : i);
        }
        none.due("of seven, i 8", all.who(1, 8), NONE);
        for (int far : FAR) {
            none.due("g " + far, x.who(far, NONE), NONE);
            none.due("i " + far, all.who(1, far), NONE);
        }
    }

    // ---- 35: ODDS ----

    private static void odds() {
        Sentence s = Sentence.of(35, "ODDS for k (0 .. 7) and a chance (0 .. 100)");
        SaintCarried x = Check.town(SEVEN);
        s.due("k 0", x.odds(0, 50), ALL);
        s.due("k 7", x.odds(7, 50), ALL);
        s.due("k 8", x.odds(8, 50), NONE);
        s.due("k -1", x.odds(-1, 50), NONE);
        s.due("chance 0", x.odds(1, 0), ALL);
        s.due("chance 100", x.odds(1, 100), ALL);
        s.due("chance 101", x.odds(1, 101), NONE);
        s.due("chance -1", x.odds(1, -1), NONE);
        SaintCarried dry = Check.town("st3;hx3g1;h;b", "y:0");
        s.due("chance 0: all dry", dry.odds(1, 0), ALL);
        s.due("chance 1", dry.odds(1, 1), ALL / 100 * 99);
        s.due("chance 99", dry.odds(1, 99), ALL / 100);
        s.due("chance 100: none dry", dry.odds(1, 100), 0);
        Sentence fewer = Sentence.of(35, "ODDS (0, if there are fewer). NONE: no TOWN, out of bounds.");
        SaintCarried two = Check.town("hx1g1;hx2g2;hx3g0;b");
        fewer.due("as many", two.odds(2, 50), ALL);
        fewer.due("one fewer", two.odds(3, 50), 0);
        fewer.due("of seven", two.odds(7, 50), 0);
        two.carry(0);
        fewer.due("one was", two.odds(1, 50), ALL);
        fewer.due("one was, two", two.odds(2, 50), 0);
        two.gift(1, 2);
        fewer.due("none", two.odds(1, 50), 0);
        fewer.due("none of none", two.odds(0, 50), ALL);
        fewer.due("six and none", Check.town("hx1g1;hx2g1;hx3g1;hx4g1;hx5g1;hx6g1;hx7g0;b").odds(7, 0), 0);
    }

    private static void oddsRain() {
        Sentence s = Sentence.of(35, "on each way to one of the first k HOUSES of the ORDER it RAINS by chance, it takes half of STEPS, cut, more TIME then");
        int[] rain = {0, 1, 3, 4, 6, 7, 9, 10, 12, 13};
        for (int steps = 1; steps <= 9; steps++) {
            String town = ";hx" + steps + "g1;h;b";
            s.due(steps + " STEPS in RAIN to the full", Check.town("st" + rain[steps] + town, "y:0").odds(1, 30), ALL);
            String less = "st" + (rain[steps] - 1) + town;
            int dry = rain[steps] > steps ? ALL / 10 * 7 : 0;
            if (rain[steps] > 1) {
                s.due(steps + " STEPS in RAIN, one less", Check.town(less, "y:0").odds(1, 30), dry);
            }
        }
        // He comes at 9, in RAIN at 13: then he STANDS by that TIME.
        s.due("STANDS by the TIME as he comes", Check.town("st13;hx9g1;hx1g2;b", "y:t>9?0;y:9").odds(1, 30), ALL / 10 * 3);
        s.due("n and d as ever", Check.town("st99;hx4g1;hx8g2;b", "y:d=4&n<2?0;y:60").odds(2, 30), ALL);
        Sentence time = Sentence.of(35, "those by which he could be CARRIED to the first k of them, one behind the other, by TIME alone");
        time.due("not by STRENGTH", Check.town("hx9y9g1;hx1g2;bs1").odds(2, 0), ALL);
        time.due("TIME to the full", Check.town("st6;hx1g1;hx3g2;b", "y:d").odds(2, 0), ALL);
        time.due("TIME, one less", Check.town("st5;hx1g1;hx3g2;b", "y:d").odds(2, 0), 0);
        time.due("TIME, one less, the first alone", Check.town("st5;hx1g1;hx3g2;b", "y:d").odds(1, 0), ALL);
        time.due("not the first, though the second", Check.town("st9;hx9y9g1;hx1g2;b").odds(2, 0), 0);
        SaintCarried x = Check.town("st20;hx9g9;hx7g2;b", "y:2");
        x.carry(0);
        time.due("from here on, at 11", x.odds(1, 40), ALL);
        SaintCarried less = Check.town("st15;hx9g9;hx7g2;b", "y:2");
        less.carry(0);
        time.due("from here on, dry at 15, in RAIN at 16", less.odds(1, 40), ALL / 10 * 6);
    }

    private static void oddsParts() {
        Sentence s = Sentence.of(35, "of 10 to the 9 parts those by which he could be CARRIED");
        SaintCarried x = Check.town("st99;hx2g1;hx4g2;hx6g3;hx8g4;hx8y2g5;hx8y4g6;hx8y6g7;b", "y:1");
        for (int k = 0; k <= 7; k++) {
            s.due("none is lost in " + k, x.odds(k, 33), ALL);
        }
        Sentence cut = Sentence.of(35, "(100ths of each part, cut, RAIN)");
        // The fifth 33 of 100 of what was dry four times: 201511210, 66498699.3 of it RAIN; of RAIN: 3913539.3.
        String five = "st59;hx2g1;hx4g2;hx6g3;hx8g4;hx8y2g5;b";
        cut.due("five dry", Check.town(five, "y:t=[n+1]*2?0;y:60").odds(5, 33), 201511210 - 66498699);
        cut.due("five in RAIN", Check.town(five, "y:t=[n+1]*3?0;y:60").odds(5, 33), 3913539);
        cut.due("four dry", Check.town(five, "y:t=[n+1]*2?0;y:60").odds(4, 33), 201511210);
        cut.due("four in RAIN", Check.town(five, "y:t=[n+1]*3?0;y:60").odds(4, 33), 11859210);
        String seven = five + ";hx8y4g6;hx8y6g7";
        long rain = ALL;
        long dry = ALL;
        for (int i = 0; i < 7; i++) {
            rain = rain * 7 / 100;
            dry -= dry * 7 / 100;
        }
        cut.due("seven dry", Check.town(seven, "y:t=[n+1]*2?0;y:60").odds(7, 7), dry);
        cut.due("seven in RAIN", Check.town(seven, "y:t=[n+1]*3?0;y:60").odds(7, 7), rain);
        cut.due("seven in RAIN, by 1", Check.town(seven, "y:t=[n+1]*3?0;y:60").odds(7, 1), 0);
        cut.due("four in RAIN, by 1", Check.town(seven, "y:t=[n+1]*3?0;y:60").odds(4, 1), 10);
        cut.due("five in RAIN, by 1", Check.town(seven, "y:t=[n+1]*3?0;y:60").odds(5, 1), 0);
    }

    private static void oddsRefused() {
        Sentence s = Sentence.of(35, "ODDS (0, if there are fewer). NONE: no TOWN, out of bounds.");
        SaintCarried x = Check.town(SEVEN);
        s.due("no TOWN", new SaintCarried().odds(0, 0), NONE);
        s.due("no TOWN, one", new SaintCarried().odds(1, 50), NONE);
        for (int far : FAR) {
            s.due("k " + far, x.odds(far, 50), NONE);
            s.due("chance " + far, x.odds(1, far), NONE);
        }
    }

    // ---- 36 to 40 ----

    private static void shares() {
        Sentence s = Sentence.of(36, "SHARES of c (0 .. 999) by GRIEVANCES: for a HOUSE c times its by all, cut (none: 0).");
        SaintCarried x = Check.town("hx1g7;hx2g0;hx3g4q1;b");
        s.due("c 0", x.shares(0, 0), 0);
        s.due("c 1", x.shares(0, 1), 0);
        s.due("c 2", x.shares(0, 2), 1);
        s.due("c 999", x.shares(0, 999), 635);
        s.due("c 1000", x.shares(0, 1000), NONE);
        s.due("c -1", x.shares(0, -1), NONE);
        s.due("none of it", x.shares(1, 999), 0);
        s.due("THANKFUL ones too", x.shares(2, 999), 363);
        s.due("to the full", x.shares(2, 11), 4);
        s.due("cut", x.shares(2, 10), 3);
        s.due("all have none", Check.town("hx1g0;hx2g0;b").shares(0, 999), 0);
        s.due("one has all", Check.town("hx1g1;hx2g0;b").shares(0, 999), 999);
        s.due("the most", Check.town("hx1g30;hx2g30;hx3g30;hx4g30;hx5g30;hx6g30;hx7g30;b").shares(6, 999), 142);
        x.gift(0, 7);
        x.gift(2, 4);
        s.due("all have none now", x.shares(2, 999), 0);
        Sentence none = Sentence.of(36, "SHARES. NONE: no such HOUSE, out of bounds.");
        none.due("behind the last", x.shares(3, 1), NONE);
        none.due("HOUSE -1", x.shares(-1, 1), NONE);
        none.due("no TOWN", new SaintCarried().shares(0, 1), NONE);
        for (int far : FAR) {
            none.due("HOUSE " + far, x.shares(far, 1), NONE);
            none.due("c " + far, x.shares(0, far), NONE);
        }
    }

    private static void hardest() {
        Sentence s = Sentence.of(37, "HARDEST: the HOUSE with the most GRIEVANCE");
        s.due("all have none", Check.town("hx1g0;hx2g0;b").most(0), 0);
        s.due("the first", Check.town("hx1g2;hx2g1;hx3g1;b").most(0), 0);
        s.due("the last", Check.town("hx1g1;hx2g1;hx3g2;b").most(0), 2);
        s.due("of several the lowest", Check.town("hx1g1;hx2g2;hx3g2;b").most(0), 1);
        s.due("THANKFUL ones too", Check.town("hx1g29;hx2g30q1;b").most(0), 1);
        SaintCarried x = Check.town("hx1g9;hx2g5;b");
        x.carry(0);
        s.due("now", x.most(0), 1);
    }

    private static void nearest() {
        Sentence s = Sentence.of(37, "NEAREST: with the fewest STEPS from where he is (another one)");
        SaintCarried x = Check.town("hx4;hx1;hx5;hx3;b");
        s.due("from the NICHE", x.most(1), 1);
        x.carry(0);
        s.due("another one, of several the lowest", x.most(1), 2);
        x.carry(2);
        s.due("from the third", x.most(1), 0);
        s.due("at his NICHE", Check.town("hx1;h;b").most(1), 1);
        SaintCarried two = Check.town("h;hx9y9;b");
        two.carry(0);
        s.due("not where he is", two.most(1), 1);
        SaintCarried other = Check.town("hx9y9;h;b");
        other.carry(1);
        s.due("not where he is, the last", other.most(1), 0);
    }

    private static void farthest() {
        Sentence s = Sentence.of(37, "FARTHEST: from the NICHE (of several the lowest, all)");
        s.due("the first", Check.town("hx3;hx1;hx2;b").most(2), 0);
        s.due("the last", Check.town("hx1;hx2;hx3;b").most(2), 2);
        s.due("of several the lowest", Check.town("hx1;hx3;hy3;hx2y1;b").most(2), 1);
        SaintCarried x = Check.town("hx9y9;hx1;b");
        x.carry(0);
        s.due("not from where he is", x.most(2), 0);
        Sentence none = Sentence.of(37, "CONTENT (3, bits), LEFT (4), FRESH (5), WAS (6, bits), BACK (7). NONE: no TOWN, no such what.");
        none.due("what 7", x.most(7), 18);
        none.due("what 8", x.most(8), NONE);
        none.due("what -1", x.most(-1), NONE);
        for (int what = 0; what <= 7; what++) {
            none.due("no TOWN, what " + what, new SaintCarried().most(what), NONE);
        }
        for (int far : FAR) {
            none.due("what " + far, x.most(far), NONE);
        }
    }

    private static void bits() {
        Sentence content = Sentence.of(37, "CONTENT: HOUSES (bits) without GRIEVANCE.");
        content.due("none", Check.town(SEVEN).most(3), 0);
        content.due("all", Check.town("hx1g0;hx2g0;hx3g0;hx4g0;hx5g0;hx6g0;hx7g0q1;b").most(3), 127);
        content.due("the first and the last", Check.town("hx1g0;hx2g1;hx3g1;hx4g1;hx5g1;hx6g1;hx7g0;b").most(3), 65);
        Sentence was = Sentence.of(37, "WAS: HOUSES (bits) where he was this year.");
        SaintCarried x = Check.town(SEVEN + ";b");
        int bits = 0;
        was.due("none", x.most(6), 0);
        for (int house : new int[] {6, 0, 3, 1, 5, 2, 4}) {
            x.carry(house);
            bits |= 1 << house;
            was.due("HOUSE " + house, x.most(6), bits);
        }
        content.due("all EASED", x.most(3), 127);
        x.year();
        was.due("another YEAR", x.most(6), 0);
    }

    private static void left() {
        Sentence left = Sentence.of(37, "LEFT: TIME that is left. FRESH: how much more TIRED they could be.");
        SaintCarried x = Check.town("st14;hx9;hx8;bs4;bs5", "y:0");
        left.due("all TIME", x.most(4), 14);
        left.due("none TIRED", x.most(5), 9);
        x.carry(0);
        left.due("TIME", x.most(4), 5);
        left.due("none FRESH", x.most(5), 0);
        x.rest();
        left.due("no TIME", x.most(4), 0);
        left.due("FRESH", x.most(5), 9);
        x.year();
        left.due("all TIME again", x.most(4), 14);
        Sentence back = Sentence.of(37, "BACK to the NICHE: STEPS.");
        SaintCarried y = Check.town("h;hx9y9;b");
        back.due("there", y.most(7), 0);
        y.carry(0);
        back.due("a HOUSE at the same place", y.most(7), 0);
        y.carry(1);
        back.due("the farthest", y.most(7), 18);
    }

    private static void years() {
        Sentence s = Sentence.of(38, "YEARS to n (1 .. 200): behind how many YEARS (0 .. 60) all GRIEVANCES together are n or more, was he CARRIED nowhere.");
        SaintCarried x = Check.town("se9;hx1g1;hx2g0;hx3g0q1;b");
        s.due("n 0", x.years(0), NONE);
        s.due("n 1: now", x.years(1), 0);
        s.due("n 2", x.years(2), 1);
        s.due("n 19: to the full", x.years(19), 1);
        s.due("n 20", x.years(20), 2);
        s.due("n 58: 30 at most", x.years(58), 4);
        s.due("n 60: 30 at most", x.years(60), 4);
        s.due("n 57", x.years(57), 4);
        s.due("n 55", x.years(55), 3);
        s.due("n 61: never", x.years(61), NONE);
        s.due("n -1", x.years(-1), NONE);
        SaintCarried all = Check.town("se1;hx1g30;hx2g30;hx3g30;hx4g30;hx5g30;hx6g30;hx7g19;b");
        s.due("n 199", all.years(199), 0);
        s.due("n 200", all.years(200), 1);
        s.due("n 201", all.years(201), NONE);
        SaintCarried slow = Check.town("se1;hx1g0;hx2g0;b");
        s.due("thirty YEARS", slow.years(60), 30);
        s.due("twenty-nine YEARS", slow.years(58), 29);
        s.due("thirty YEARS, one less", slow.years(59), 30);
        Sentence none = Sentence.of(38, "YEARS. NONE: not within 60, no TOWN, out of bounds.");
        none.due("never", slow.years(61), NONE);
        none.due("none grows", Check.town("se0;hx1;hx2;b").years(11), NONE);
        none.due("none grows, now", Check.town("se0;hx1;hx2;b").years(10), 0);
        none.due("THANKFUL ones don't", Check.town("se9;hx1q1;hx2q1;b").years(11), NONE);
        none.due("no TOWN", new SaintCarried().years(1), NONE);
        for (int far : FAR) {
            none.due("n " + far, x.years(far), NONE);
        }
        x.carry(0);
        none.due("as it is now", x.years(1), 1);
    }

    private static void waits() {
        Sentence s = Sentence.of(39, "WAITS for n (0 .. 60): HOUSES (bits) where he was not this year at which he would STAND n or longer, if he was CARRIED there now.");
        SaintCarried x = Check.town("hx1g0;hx2g29;hx3g30;hx4g30;b", "y:g*2");
        s.due("n 0", x.waits(0), 15);
        s.due("n 1", x.waits(1), 14);
        s.due("n 58", x.waits(58), 14);
        s.due("n 59", x.waits(59), 12);
        s.due("n 60", x.waits(60), 12);
        s.due("n 61", x.waits(61), NONE);
        s.due("n -1", x.waits(-1), NONE);
        x.carry(0);
        s.due("not where he is", x.waits(0), 14);
        s.due("though it couldn't be", Check.town("st1;hx8g30;hx9;bs1").waits(16), 1);
        SaintCarried was = Check.town("hx1g9;hx2g9;b");
        was.carry(0);
        was.carry(1);
        s.due("not where he was", was.waits(0), 0);
        was.year();
        s.due("another YEAR", was.waits(0), 3);
        s.due("all seven", Check.town(SEVEN).waits(1), 127);
        s.due("none of seven", Check.town(SEVEN).waits(2), 0);
        Sentence none = Sentence.of(39, "WAITS, as bits. NONE: no TOWN, out of bounds.");
        none.due("no TOWN", new SaintCarried().waits(0), NONE);
        for (int far : FAR) {
            none.due("n " + far, x.waits(far), NONE);
        }
    }

    private static void remains() {
        Sentence s = Sentence.of(40, "REMAINS of a HOUSE: TIME that would be left behind it then (below 0: too little).");
        for (int there = 11; there <= 13; there++) {
            SaintCarried x = Check.town("st" + there + ";hx9g5;hx9y9g5;bs9");
            s.due("9 and 3 of " + there, x.remains(0), there - 12);
            s.due("can be", x.carry(0) != NONE, there >= 12);
        }
        s.due("the least", Check.town("st1;hx9y9;hx1;b", "y:60").remains(0), -77);
        SaintCarried x = Check.town("st40;hx9g5;hx7g9;b");
        x.carry(0);
        s.due("from here on", x.remains(1), 40 - 12 - 2 - 5);
        s.due("where he is", x.remains(0), 40 - 12 - 2);
        Sentence none = Sentence.of(40, "REMAINS. HIDDEN: no such HOUSE.");
        none.due("the last", x.remains(1), 21);
        none.due("behind the last", x.remains(2), HIDDEN);
        none.due("HOUSE -1", x.remains(-1), HIDDEN);
        none.due("no TOWN", new SaintCarried().remains(0), HIDDEN);
        for (int far : FAR) {
            none.due("HOUSE " + far, x.remains(far), HIDDEN);
        }
    }
}
