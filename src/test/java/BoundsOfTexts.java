/** Promises 1 to 5 and Terms 1, sentence by sentence: the value just inside each bound and the one just outside it. */
final class BoundsOfTexts {
    private static final int NONE = SaintCarried.NONE;
    private static final int LEAST = Integer.MIN_VALUE;
    private static final int MOST = Integer.MAX_VALUE;
    private static final String DIGITS = "0123456789";
    private static final String LETTERS = "gqtndy";
    private static final String SUM_STARTS = DIGITS + LETTERS + "[";
    private static final String UNIT_STARTS = SUM_STARTS + "!(";

    private BoundsOfTexts() {
    }

    /** What a town that was just told answers of one thing. */
    private interface Told {
        int of(SaintCarried x);
    }

    static void runAll() {
        newObject();
        feedBytes();
        feedMost();
        end();
        fault();
        text();
        fourLaws();
        anotherTown();
        clauses();
        items();
        numbersOfRules();
        numbersOfHouses();
        places();
        thirdDigits();
        townGoesOn();
        tooEarly();
        sharedPlaces();
        blanks();
        lawClauses();
        lawUnits();
        lawSums();
        lawGoesOn();
        lawNesting();
        nestedSides();
    }

    private static void newObject() {
        Sentence s = Sentence.of(1, "No TOWN.");
        SaintCarried x = new SaintCarried();
        for (int what = 0; what <= 15; what++) {
            s.due("count " + what, x.count(what), what == 4 || what == 7 ? NONE : what == 11 ? 7 : 0);
        }
        s.due("rule", x.rule(1), NONE);
        s.due("house", Check.house(x, 0, 0), SaintCarried.HIDDEN);
        s.due("bearer", x.bearer(0), NONE);
        s.due("most", x.most(7), NONE);
        Sentence none = Sentence.of(1, "`NONE = -1`: None; refused.");
        none.due("NONE", SaintCarried.NONE, -1);
        Sentence hidden = Sentence.of(1, "`HIDDEN = -1000000`: Not told.");
        hidden.due("HIDDEN", SaintCarried.HIDDEN, -1000000);
    }

    // ---- 2 and 3: the tape ----

    private static void feedBytes() {
        Sentence s = Sentence.of(2, "Twenty bytes more come to the TAPE (of each number the highest first; bytes of 0 are left out)");
        SaintCarried x = new SaintCarried();
        s.due("none of 20", x.feed(0, 0, 0, 0, 0), 0);
        s.due("all of 20", x.feed(0x683b6878, 0x31793b68, 0x78323b62, 0x3b68783b, 0x68793962), 20);
        x.end(0);
        s.due("one in each number, in each place", x.feed(0x68000000, 0x3b0000, 0x6800, 0x78, 0x31000000), 5);
        s.due("two, apart", x.feed(0x3b000062, 0, 0, 0, 0), 7);
        s.due("they stand in their order", x.text(0), 2);
        s.due("the lowest and the highest byte", x.feed(0x01ff0000, 0, 0, 0, 0xff), 3);
        x.end(0);
        String text = "hx1y2;hx3y4;b";
        for (int i = 0; i < text.length(); i++) {
            int sign = text.charAt(i) << 8 * (i % 4);
            int at = i % 5;
            x.feed(at == 0 ? sign : 0, at == 1 ? sign : 0, at == 2 ? sign : 0, at == 3 ? sign : 0, at == 4 ? sign : 0);
        }
        s.due("one by one", x.text(0), 2);
        s.due("their place", Check.house(x, 1, 0) * 10 + Check.house(x, 1, 1), 34);
    }

    private static void feedMost() {
        Sentence s = Sentence.of(2, "NONE: more than 240.");
        SaintCarried x = new SaintCarried();
        for (int i = 1; i <= 12; i++) {
            s.due("to the full", x.feed(-1, -1, -1, -1, -1), 20 * i);
        }
        for (int i = 0; i < 20; i++) {
            int sign = 1 << 8 * (i % 4);
            int at = i / 4;
            int got = x.feed(at == 0 ? sign : 0, at == 1 ? sign : 0, at == 2 ? sign : 0, at == 3 ? sign : 0, at == 4 ? sign : 0);
            s.due("the 241st, number " + at + ", byte " + i % 4, got, NONE);
        }
        s.due("no byte more", x.feed(0, 0, 0, 0, 0), 240);
        for (int room = 1; room < 20; room++) {
            x.end(240 - room);
            s.due("one more than room for " + room, x.feed(bytes(room + 1, 0), bytes(room + 1, 1), bytes(room + 1, 2),
                bytes(room + 1, 3), bytes(room + 1, 4)), NONE);
            s.due("none of them came", x.count(3), 240 - room);
            s.due("as many as room for " + room, x.feed(bytes(room, 0), bytes(room, 1), bytes(room, 2), bytes(room, 3),
                bytes(room, 4)), 240);
        }
    }

    /** The at-th of five numbers that have so many bytes together. */
    private static int bytes(int all, int at) {
        int number = 0;
        for (int i = 0; i < 4; i++) {
            number |= at * 4 + i < all ? 0x20 << 8 * i : 0;
        }
        return number;
    }

    private static void end() {
        Sentence first = Sentence.of(3, "The TAPE has its first n bytes alone.");
        SaintCarried x = new SaintCarried();
        Check.feed(x, "h;hx1;bh;hx1;b");
        first.due("all", x.end(14), true);
        first.due("all are there", x.count(3), 14);
        first.due("seven", x.end(7), true);
        first.due("the first ones", x.fault(0), NONE);
        first.due("the last but one", x.end(6), true);
        Check.feed(x, "s");
        first.due("what comes then stands behind them", x.fault(0), 7);
        first.due("none", x.end(0), true);
        first.due("none is there", x.count(3), 0);
        Check.feed(x, "x");
        first.due("none of the old ones", x.fault(0), 0);
        Sentence n = Sentence.of(3, "False: n.");
        SaintCarried y = new SaintCarried();
        n.due("of none: 1", y.end(1), false);
        n.due("of none: 0", y.end(0), true);
        Check.feed(y, "h;hx1;b");
        n.due("one more", y.end(8), false);
        n.due("one below", y.end(-1), false);
        n.due("the least", y.end(LEAST), false);
        n.due("the most", y.end(MOST), false);
        n.due("all stay", y.fault(0), NONE);
        n.due("as many", y.end(7), true);
        n.due("one less", y.end(6), true);
        n.due("no more what was cut", y.end(7), false);
    }

    // ---- 4 and 5: what is read ----

    private static void fault() {
        Sentence s = Sentence.of(4, "The FAULT of the TAPE as a TOWN (0), a LAW (1). NONE: none. -2: no such sort.");
        s.due("a TOWN as a TOWN", Check.fault("h;hx1;b", 0), NONE);
        s.due("a TOWN as a LAW", Check.fault("h;hx1;b", 1), 0);
        s.due("a LAW as a LAW", Check.fault("y:1", 1), NONE);
        s.due("a LAW as a TOWN", Check.fault("y:1", 0), 0);
        for (int sort : new int[] {LEAST, -2, -1, 2, 3, MOST}) {
            s.due("of a TOWN, sort " + sort, Check.fault("h;hx1;b", sort), -2);
            s.due("of nothing, sort " + sort, Check.fault("", sort), -2);
        }
    }

    private static void text() {
        Sentence empty = Sentence.of(5, "The TAPE (empty then) is the TOWN");
        Sentence none = Sentence.of(5, "NONE: a FAULT, no such sort, there are four LAWS.");
        SaintCarried x = new SaintCarried();
        none.due("nothing as a TOWN", x.text(0), NONE);
        none.due("nothing as a LAW", x.text(1), NONE);
        Check.feed(x, "h;hx1;b");
        for (int sort : new int[] {LEAST, -1, 2, MOST}) {
            none.due("sort " + sort, x.text(sort), NONE);
        }
        none.due("a TOWN as a LAW", x.text(1), NONE);
        none.due("the TAPE stays", x.count(3), 7);
        empty.due("HOUSES", x.text(0), 2);
        empty.due("empty", x.count(3), 0);
        Check.feed(x, "h;hx1;b;");
        none.due("a FAULT at the length", x.text(0), NONE);
        none.due("the TAPE stays", x.count(3), 8);
        none.due("the TOWN stays", x.count(0), 2);
        x.end(0);
        Check.feed(x, "y:1");
        none.due("a LAW as a TOWN", x.text(0), NONE);
        empty.due("a LAW", x.text(1), 0);
        empty.due("empty", x.count(3), 0);
        Check.feed(x, "y:1;");
        none.due("a FAULT of a LAW", x.text(1), NONE);
        none.due("the TAPE stays", x.count(3), 4);
        none.due("no LAW more", x.count(2), 1);
    }

    private static void fourLaws() {
        Sentence four = Sentence.of(5, "LAWS (4 at most)");
        SaintCarried x = Check.town("h;hx1;b");
        for (int law = 0; law < 4; law++) {
            Check.feed(x, "y:" + law + "+10");
            four.due("its number", x.text(1), law);
            four.due("how many", x.count(2), law + 1);
        }
        Check.feed(x, "y:50");
        four.due("no fifth", x.text(1), NONE);
        four.due("four", x.count(2), 4);
        four.due("its TEXT stays", x.count(3), 4);
        four.due("no LAW 4", x.law(4), false);
        for (int law = 0; law < 4; law++) {
            four.due("the LAW holds", x.law(law), true);
            four.due("each is as it was told", x.stands(0), law + 10);
        }
        x.end(0);
        Check.feed(x, "h;hx1;hx2;b");
        four.due("a TOWN beside four LAWS", x.text(0), 3);
    }

    private static void anotherTown() {
        Sentence s = Sentence.of(5, "(YEAR 0, in his NICHE; all that was of another one, STOOD, SEEN, too, is gone but LAWS, which holds, FAITH, STATUS)");
        SaintCarried x = Check.town("st40c33e7;hx2g9;hx3g4q1;hx4g0;bs30;bs1", "y:2");
        x.carry(0);
        x.gift(1, 1);
        x.image();
        x.year();
        x.carry(0);
        x.stood(0, 0, 3);
        x.seen(0, 0, true);
        x.faith(9);
        x.carry(9);
        x.rest();
        Check.feed(x, "hx7;h;bs4");
        s.due("a smaller one", x.text(0), 2);
        int[] want = {2, 1, 1, 0, 0, 0, 0, NONE, 0, 0, 0, 9, 0, 0, 0, 0};
        for (int what = 0; what < want.length; what++) {
            s.due("count " + what, x.count(what), want[what]);
        }
        int[] rules = {60, 20, 2, 4};
        for (int what = 0; what < rules.length; what++) {
            s.due("rule " + what, x.rule(what), rules[what]);
        }
        int[] house = {7, 0, 5, 0, 0};
        for (int what = 0; what < house.length; what++) {
            s.due("its HOUSE 0: " + what, Check.house(x, 0, what), house[what]);
        }
        s.due("no HOUSE of the other one", Check.house(x, 2, 0), SaintCarried.HIDDEN);
        s.due("no BEARER of the other one", x.bearer(1), NONE);
        s.due("the LAW holds", x.stands(0), 2);
        s.due("STATUS", x.status(0), 1);
        s.due("STOOD: all fits", x.fits(0, NONE), 31);
        s.due("SEEN: all is so", x.who(9, NONE), 3);
        s.due("LOG", x.log(0, 0), NONE);
        s.due("no ACT", x.undo(), NONE);
        s.due("no IMAGE", x.back(), NONE);
    }

    // ---- Terms 1: a TOWN ----

    private static void clauses() {
        Sentence rules = Sentence.of(4, "s (its RULES; one at most)");
        rules.town("h;hx1;b", NONE);
        rules.town("s;h;hx1;b", NONE);
        rules.town("s;h;hx1;s;b", 8);
        rules.town("s;s;h;hx1;b", 2);
        Sentence houses = Sentence.of(4, "h (a HOUSE; 2 .. 7)");
        houses.town("b", 1);
        houses.town("h;b", 3);
        houses.town("h;hx1;b", NONE);
        houses.town("h;hx1;hx2;hx3;hx4;hx5;hx6;b", NONE);
        houses.town("h;hx1;hx2;hx3;hx4;hx5;hx6;hx7;b", 26);
        due7Houses(houses);
        Sentence bearers = Sentence.of(4, "b (a BEARER; 1 .. 5), in any order");
        bearers.town("h;hx1", 5);
        bearers.town("h;hx1;b", NONE);
        bearers.town("b;h;hx1;s", NONE);
        bearers.town("h;b;hx1;b;b;s;b;b", NONE);
        bearers.town("h;b;hx1;b;b;s;b;b;b", 18);
        bearers.due("five", Check.town("b;h;b;hx1;b;b;bs9").bearer(4), 9);
        Sentence there = Sentence.of(4, "a letter that was there, a second s, an eighth h, a sixth b, a seventh of ( [ ! at it.");
        there.town("sc1;h;hx1;b;sc", 12);
        there.town("b;b;b;b;b;b", 10);
        there.town("hx1;hx2;hx3;hx4;hx5;hx6;hx7;hx8", 28);
        there.town("h;hx1x", 5);
        there.town("b;b;b;b;b;h;hx1;hx2;hx3;hx4;hx5;hx6;s", NONE);
        there.town("b;b;b;b;b;h;hx1;hx2;hx3;hx4;hx5;hx6;s;s", 38);
        there.town("b;b;b;b;b;h;hx1;hx2;hx3;hx4;hx5;hx6;s;h", 38);
        there.town("b;b;b;b;b;h;hx1;hx2;hx3;hx4;hx5;hx6;s;b", 38);
    }

    private static void due7Houses(Sentence s) {
        SaintCarried x = Check.town("hx1g1;hx2g2;hx3g3;hx4g4;hx5g5;hx6g6;hx7y1g7q1;b");
        s.due("seven", x.count(0), 7);
        s.due("the seventh", Check.house(x, 6, 2), 7);
    }

    private static void items() {
        Sentence s = Sentence.of(4, "ITEMS, none or more: a letter, each once at most in a CLAUSE");
        s.town("s;h;hx1;b", NONE);
        s.town("st9c9e9;hx1y1g1q1;hq1g1y1x2;bs9;bs9", NONE);
        s.town("se9c9t9;h;hx1;b", NONE);
        for (String letters : new String[] {"stce", "hxygq", "bs"}) {
            for (int i = 1; i < letters.length(); i++) {
                for (int j = 1; j < letters.length(); j++) {
                    String text = letters.substring(0, 1) + letters.charAt(i) + "1" + letters.charAt(j) + "1";
                    s.town(text + ";hx9;hx8;b", i == j ? 3 : NONE);
                }
            }
        }
        s.town("hx1y1x1;h;b", 5);
        s.town("hx1y1g1q1q;h;b", 9);
        Sentence digits = Sentence.of(4, "a number (one or two digits)");
        digits.town("ht", 1);
        digits.town("st", 2);
        digits.town("st;h;hx1;b", 2);
        digits.town("st1;h;hx1;b", NONE);
        digits.town("st01;h;hx1;b", NONE);
        digits.town("st001;h;hx1;b", 4);
    }

    private static void numbersOfRules() {
        String behind = ";h;hx1;b";
        number(Sentence.of(6, "t the TIME that there is (1 .. 99; 60 without)"), "s", 't', behind, 1, 99, 60, x -> x.rule(0));
        number(Sentence.of(6, "c COINS (0 .. 99; 20)"), "s", 'c', behind, 0, 99, 20, x -> x.rule(1));
        number(Sentence.of(6, "e by how much a GRIEVANCE grows a year (0 .. 9; 2)"), "s", 'e', behind, 0, 9, 2, x -> x.rule(2));
        Sentence strength = Sentence.of(8, "s STRENGTH (1 .. 40; 20)");
        number(strength, "h;hx1;bs9;b", 's', "", 1, 40, 20, x -> x.bearer(1));
        strength.due("five of 40", Check.town("h;hx1;bs40;bs40;bs40;bs40;bs40").rule(3), 200);
        strength.due("one of 1", Check.town("h;hx1;bs1").rule(3), 1);
        Sentence without = Sentence.of(6, "(1 .. 99; 60 without)");
        without.due("without any s", Check.town("h;hx1;b").rule(0), 60);
        without.due("COINS without any s", Check.town("h;hx1;b").rule(1), 20);
        without.due("growth without any s", Check.town("h;hx1;b").rule(2), 2);
    }

    private static void numbersOfHouses() {
        String behind = ";hx9y9;hx8y9;b";
        Sentence place = Sentence.of(7, "x, y where it is (0 .. 9 each; 0, 0)");
        number(place, "h", 'x', behind, 0, 9, 0, x -> Check.house(x, 0, 0));
        number(place, "h", 'y', behind, 0, 9, 0, x -> Check.house(x, 0, 1));
        number(Sentence.of(7, "g GRIEVANCE (0 .. 30; 5)"), "h", 'g', behind, 0, 30, 5, x -> Check.house(x, 0, 2));
        number(Sentence.of(7, "q whether THANKFUL (0, 1; 0)"), "h", 'q', behind, 0, 1, 0, x -> Check.house(x, 0, 3));
    }

    /** Each number of one or two digits behind a letter: what is told within the bounds, the FAULT outside of them. */
    private static void number(Sentence s, String ahead, char letter, String behind, int least, int most, int usual, Told told) {
        s.due("without " + letter, told.of(Check.town(ahead + behind)), usual);
        Sentence last = Sentence.of(4, "a number out of bounds is wrong at its last digit");
        for (int digits = 1; digits <= 2; digits++) {
            for (int number = 0; number < (digits == 1 ? 10 : 100); number++) {
                String text = ahead + letter + (digits == 2 && number < 10 ? "0" : "") + number;
                if (number >= least && number <= most) {
                    s.town(text + behind, NONE);
                    s.due(text, told.of(Check.town(text + behind)), number);
                } else {
                    s.town(text + behind, text.length() - 1);
                    last.town(text, text.length() - 1);
                    last.town(text + " ", text.length() - 1);
                }
            }
        }
        last.town(ahead + letter + "9" + letter, most >= 9 ? ahead.length() + 2 : ahead.length() + 1);
    }

    private static void places() {
        Sentence s = Sentence.of(7, "x, y where it is (0 .. 9 each; 0, 0)");
        SaintCarried x = Check.town("h;hx9y9;hx9;hy9;b");
        int[] want = {0, 0, 9, 9, 9, 0, 0, 9};
        for (int i = 0; i < want.length; i++) {
            s.due("HOUSE " + i / 2, Check.house(x, i / 2, i % 2), want[i]);
        }
    }

    private static void thirdDigits() {
        Sentence s = Sentence.of(4, "a third digit (a fifth one in a LAW) itself, whatever stands ahead of it");
        String[] letters = {"st", "sc", "se", "hx", "hy", "hg", "hq", "bs"};
        for (String letter : letters) {
            for (String number : new String[] {"000", "001", "010", "100", "999", "0000"}) {
                s.town(letter + number, 4);
            }
            s.town("hx9;b;h" + ";" + letter + "999;h", 12);
        }
        for (String number : new String[] {"00000", "00001", "10000", "99999", "000000"}) {
            s.law("y:" + number, 6);
            s.law("y:g=" + number, 8);
            s.law("y:g=1?[" + number, 11);
        }
        s.law("y:9999", NONE);
        s.law("y:9999+99999", 11);
    }

    private static void townGoesOn() {
        Sentence s = Sentence.of(4, "FAULT: the first byte at which no such TEXT can go on");
        s.follow(0, "", "shb");
        s.follow(0, " ", "shb");
        s.follow(0, "s", ";tce");
        s.follow(0, "h", ";xygq");
        s.follow(0, "b", ";s");
        s.follow(0, "s;", "hb");
        s.follow(0, "h;", "shb");
        s.follow(0, "h;hx1;hx2;hx3;hx4;hx5;hx6;", "sb");
        s.follow(0, "b;b;b;b;b;", "sh");
        s.follow(0, "st", "123456789");
        s.follow(0, "st5", DIGITS + ";ce");
        s.follow(0, "st5 ", ";ce");
        s.follow(0, "st55", ";ce");
        s.follow(0, "st55c5e5", ";");
        s.follow(0, "sc0", DIGITS + ";te");
        s.follow(0, "hx", DIGITS);
        s.follow(0, "hx0", DIGITS + ";ygq");
        s.follow(0, "hx1", ";ygq");
        s.follow(0, "hg2", DIGITS + ";xyq");
        s.follow(0, "hg3", "0;xyq");
        s.follow(0, "hq0", "01;xyg");
        s.follow(0, "hq1", ";xyg");
        s.follow(0, "hx1y1g4q1", ";");
        s.follow(0, "bs", "123456789");
        s.follow(0, "bs4", "0;");
        s.follow(0, "bs3", DIGITS + ";");
        s.follow(0, "bs33", ";");
    }

    private static void tooEarly() {
        Sentence s = Sentence.of(4, "(the length, if it ends too early, with fewer than two HOUSES, without a BEARER, with two HOUSES in one place)");
        String town = "st12c3e4;hx1y2g30q1;hx3;bs40";
        for (int n = 0; n < town.length(); n++) {
            boolean isWhole = n == 25 || n == 27;
            s.town(town.substring(0, n), isWhole ? NONE : n);
        }
        s.town(town, NONE);
        s.town(town + ";", town.length() + 1);
        s.town("", 0);
        s.town("  ", 2);
        s.town("hx1;b", 5);
        s.town("hx1;b  ", 7);
        s.town("hx1;hx2", 7);
        s.town("hx1;hx2 ", 8);
        s.town("s", 1);
        String law = "y:!(g+[1-2]*t=3|q<4)&d>56?[6]/n-y;y:7";
        for (int n = 0; n < law.length(); n++) {
            boolean isWhole = n == 29 || n == 31 || n == 33;
            s.law(law.substring(0, n), isWhole ? NONE : n);
        }
        s.law(law, NONE);
        s.law("   ", 3);
        s.law("y:g; ", 5);
    }

    private static void sharedPlaces() {
        Sentence s = Sentence.of(4, "with two HOUSES in one place");
        s.town("h;h;b", 5);
        s.town("h;hx0y0;b", 9);
        s.town("hx1y2;hx2y1;b", NONE);
        s.town("hx1y2;hy2x1;b;s", 15);
        s.town("hx1y2;hy2x1;b;s ", 16);
        s.town("hx1y2;hx1y3;b", NONE);
        s.town("hx1y2;hx3y2;b", NONE);
        s.town("hx9y9;hx1;hx2;hx3;hx4;hx5;hx9y9;b", 33);
        s.town("hx9y9;hx1;hx2;hx3;hx4;hx5;hx9y8;b", NONE);
        s.town("hx9;hx1;hx2;hx3;hx4;hx5;hx5;b", 29);
        s.town("hx1;hx1;b;x", 10);
        s.due("no TOWN", textOf("h;h;b"), NONE);
    }

    private static int textOf(String text) {
        SaintCarried x = new SaintCarried();
        Check.feed(x, text);
        return x.text(0);
    }

    private static void blanks() {
        Sentence s = Sentence.of(4, "Blanks (32) may stand between all signs of both, not within numbers.");
        blanksIn(s, 0, "st12c3e4;hx1y2g30q1;hx3;bs40;b");
        blanksIn(s, 1, "y:!(g+[1-2]*t=3|q<4)&d>5678?[6]/n-y;y:7");
        SaintCarried x = Check.town("  h  x  1  g  07  ;h;b");
        s.due("no blank counts", Check.house(x, 0, 2), 7);
        for (int sign : new int[] {9, 10, 13, 31, 33, 160}) {
            s.town("h" + (char) sign + ";hx1;b", 1);
            s.law("y:g" + (char) sign, 3);
        }
    }

    private static void blanksIn(Sentence s, int sort, String text) {
        s.due(text, Check.fault(text, sort), NONE);
        for (int at = 0; at <= text.length(); at++) {
            boolean isInNumber = at > 0 && at < text.length() && Character.isDigit(text.charAt(at - 1))
                && Character.isDigit(text.charAt(at));
            for (String blanks : new String[] {" ", "   "}) {
                String wide = text.substring(0, at) + blanks + text.substring(at);
                s.due("'" + wide + "'", Check.fault(wide, sort), isInNumber ? at + blanks.length() : NONE);
            }
        }
    }

    // ---- Terms 1: a LAW ----

    private static void lawClauses() {
        Sentence s = Sentence.of(4, "CLAUSES with ; between, one at least: y, : , perhaps CONDITION ?, then SUM");
        s.law("", 0);
        s.law("y:1", NONE);
        s.law("y:1;y:2;y:3", NONE);
        s.law("y:1;", 4);
        s.law(";y:1", 0);
        s.law("y:1;;y:2", 4);
        s.law("y1", 1);
        s.law("y:?1", 2);
        s.law("y:g=1?1", NONE);
        s.law("y:g=1?t=1", 7);
        s.law("y:g=1?t=1?1", 7);
        s.law("y:g?1", 3);
        s.law("y:g=1", 5);
        s.law("y:g=1;y:1", 5);
        Sentence must = Sentence.of(4, "(A CLAUSE that goes on with ! or ( behind its : has a CONDITION.)");
        must.law("y:!g", 4);
        must.law("y:!g;", 4);
        must.law("y:!g=1", 6);
        must.law("y:!g=1;", 6);
        must.law("y:!g=1?1", NONE);
        must.law("y:(g)", 4);
        must.law("y:(g)+1", 4);
        must.law("y:(g=1)", 7);
        must.law("y:(g=1);", 7);
        must.law("y:(g=1)?1", NONE);
        must.law("y:[g]", NONE);
        StringBuilder many = new StringBuilder("y:1");
        while (many.length() + 4 <= 240) {
            many.append(";y:1");
        }
        s.law(many.toString(), NONE);
        s.law(many.append(';').toString(), many.length());
    }

    private static void lawUnits() {
        Sentence s = Sentence.of(4, "CONDITION: TRUTHS with | between; TRUTH: UNITS with & between; UNIT: ! UNIT, ( CONDITION ), or SUM, one of = < >, SUM.");
        s.law("y:g=1|t=1|n=1?1", NONE);
        s.law("y:g=1&t=1&n=1?1", NONE);
        s.law("y:g=1|?1", 6);
        s.law("y:g=1&?1", 6);
        s.law("y:g=1&&t=1?1", 6);
        s.law("y:g=1||t=1?1", 6);
        s.law("y:|g=1?1", 2);
        s.law("y:g=1!t=1?1", 5);
        s.law("y:g=1(t=1)?1", 5);
        s.law("y:g==1?1", 4);
        s.law("y:g<=1?1", 4);
        s.law("y:g<1<2?1", 5);
        s.law("y:=1?1", 2);
        s.law("y:g=?1", 4);
        s.law("y:g&t=1?1", 3);
        s.law("y:g=1&t?1", 7);
        s.law("y:()?1", 3);
        s.law("y:(g=1?1", 6);
        s.law("y:g=1)?1", 5);
        s.law("y:((g=1))?1", NONE);
        s.law("y:!?1", 3);
        s.law("y:!!g=1?1", NONE);
        s.law("y:!(g=1)&!t<2|!(n>3)?1", NONE);
        String[] hold = {"g=8", "g<9", "g>7", "!g=7", "(g=8)"};
        String[] fail = {"g=7", "g<8", "g>8", "!g=8", "(g=7)"};
        for (int one = 0; one < hold.length; one++) {
            for (int other = 0; other < hold.length; other++) {
                s.worth("y:" + hold[one] + "&" + hold[other] + "?1;y:2", 1);
                s.worth("y:" + hold[one] + "|" + fail[other] + "?1;y:2", 1);
                s.worth("y:" + fail[one] + "|" + hold[other] + "?1;y:2", 1);
                s.worth("y:" + hold[one] + "&" + fail[other] + "?1;y:2", 2);
                s.worth("y:" + fail[one] + "&" + hold[other] + "?1;y:2", 2);
                s.worth("y:" + fail[one] + "|" + fail[other] + "?1;y:2", 2);
            }
            s.worth("y:!" + hold[one] + "?1;y:2", 2);
            s.worth("y:!" + fail[one] + "?1;y:2", 1);
            s.worth("y:!!" + hold[one] + "?1;y:2", 1);
            s.worth("y:!(" + hold[one] + "|" + fail[one] + ")?1;y:2", 2);
        }
        s.worth("y:g=7?1;y:2", 2);
        s.worth("y:g=8?1;y:2", 1);
        s.worth("y:g=9?1;y:2", 2);
        s.worth("y:g<8?1;y:2", 2);
        s.worth("y:g<9?1;y:2", 1);
        s.worth("y:g>8?1;y:2", 2);
        s.worth("y:g>7?1;y:2", 1);
        s.worth("y:g>7&t>3?1;y:2", 2);
        s.worth("y:g>7|t>3?1;y:2", 1);
        s.worth("y:g>8|t>3?1;y:2", 2);
        s.worth("y:g=8|t=3&t=4?1;y:2", 1);
        s.worth("y:t=4&t=3|g=8?1;y:2", 1);
        s.worth("y:(g=8|t=3)&t=4?1;y:2", 2);
        s.worth("y:!g=8|t=3?1;y:2", 1);
        s.worth("y:!(g=8|t=3)?1;y:2", 2);
        s.worth("y:!!g=8?1;y:2", 1);
    }

    private static void lawSums() {
        Sentence s = Sentence.of(4, "SUM: TERMS with + or - between; TERM: ATOMS with * or / between; ATOM: a number (1 to 4 digits), a letter (g q t n d y), [ SUM ].");
        s.law("y:1+2-3*4/5", NONE);
        s.law("y:+1", 2);
        s.law("y:-1", 2);
        s.law("y:1+", 4);
        s.law("y:1++2", 4);
        s.law("y:1*", 4);
        s.law("y:1*-2", 4);
        s.law("y:0", NONE);
        s.law("y:9999", NONE);
        s.law("y:0000", NONE);
        s.law("y:99999", 6);
        s.law("y:g+q*t-n/d+y", NONE);
        for (int letter = 'a'; letter <= 'z'; letter++) {
            s.law("y:" + (char) letter, LETTERS.indexOf(letter) >= 0 ? NONE : 2);
        }
        s.law("y:gq", 3);
        s.law("y:2g", 3);
        s.law("y:g2", 3);
        s.law("y:[]", 3);
        s.law("y:[g", 4);
        s.law("y:g]", 3);
        s.law("y:[g)", 4);
        s.law("y:[g=1]", 4);
        s.law("y:[g]t", 5);
        s.worth("y:20-9-5", 6);
        s.worth("y:20-9+5", 16);
        s.worth("y:20-[9-5]", 16);
        s.worth("y:2+3*4", 14);
        s.worth("y:[2+3]*4", 20);
        s.worth("y:24/4*2", 12);
        s.worth("y:24/[4*2]", 3);
        s.worth("y:0007", 7);
        s.worth("y:d*10+g", 38);
    }

    private static void lawGoesOn() {
        Sentence s = Sentence.of(4, "FAULT: the first byte at which no such TEXT can go on");
        s.follow(1, "", "y");
        s.follow(1, "y", ":");
        s.follow(1, "y:", UNIT_STARTS);
        s.follow(1, "y:g", "+-*/=<>;");
        s.follow(1, "y:1", DIGITS + "+-*/=<>;");
        s.follow(1, "y:123", DIGITS + "+-*/=<>;");
        s.follow(1, "y:1234", "+-*/=<>;");
        s.follow(1, "y:12 ", "+-*/=<>;");
        for (String sign : new String[] {"+", "-", "*", "/", "=", "<", ">"}) {
            s.follow(1, "y:g" + sign, SUM_STARTS);
        }
        s.follow(1, "y:g=t", "+-*/&|?");
        s.follow(1, "y:g<1", DIGITS + "+-*/&|?");
        s.follow(1, "y:g=1?", SUM_STARTS);
        s.follow(1, "y:g=1?g", "+-*/;");
        s.follow(1, "y:g=1?g;", "y");
        s.follow(1, "y:g;", "y");
        s.follow(1, "y:!", UNIT_STARTS);
        s.follow(1, "y:!g", "+-*/=<>");
        s.follow(1, "y:!g=t", "+-*/&|?");
        s.follow(1, "y:(", UNIT_STARTS);
        s.follow(1, "y:(g", "+-*/=<>");
        s.follow(1, "y:(g=t", "+-*/&|)");
        s.follow(1, "y:(g=t|q", "+-*/=<>");
        s.follow(1, "y:(g=t)", "&|?");
        s.follow(1, "y:((g=t)", "&|)");
        s.follow(1, "y:!(g=t)", "&|?");
        s.follow(1, "y:[", SUM_STARTS);
        s.follow(1, "y:[g", "+-*/]");
        s.follow(1, "y:[g]", "+-*/=<>;");
        s.follow(1, "y:[[g]", "+-*/]");
        s.follow(1, "y:g=[t]", "+-*/&|?");
        s.follow(1, "y:g=1&", UNIT_STARTS);
        s.follow(1, "y:g=1|", UNIT_STARTS);
        s.follow(1, "y:g=1&q", "+-*/=<>");
        s.follow(1, "y:g=1&q<t", "+-*/&|?");
        s.follow(1, "y:g=1&(q=1)", "&|?");
        s.follow(1, "y:g=1?[t", "+-*/]");
    }

    private static void lawNesting() {
        Sentence s = Sentence.of(4, "At most six of ( [ ! within one another.");
        for (int units = 0; units <= 7; units++) {
            for (int bits = 0; bits < 1 << units; bits++) {
                StringBuilder openers = new StringBuilder();
                StringBuilder closers = new StringBuilder();
                for (int i = 0; i < units; i++) {
                    openers.append((bits >> i & 1) == 1 ? '(' : '!');
                    closers.insert(0, (bits >> i & 1) == 1 ? ")" : "");
                }
                nested(s, openers.toString(), closers.toString());
            }
        }
    }

    /** So many ( and ! and then as many [ that there are six, and that there are seven. */
    private static void nested(Sentence s, String openers, String closers) {
        Sentence at = Sentence.of(4, "a seventh of ( [ ! at it.");
        int units = openers.length();
        if (units < 7) {
            String sum = "[".repeat(6 - units) + "g" + "]".repeat(6 - units);
            String unit = units == 0 ? sum : openers + sum + "=1" + closers + "?1";
            s.law("y:" + unit, NONE);
            at.law("y:" + openers + "[".repeat(7 - units) + "g", 8);
            at.law("y:" + openers + "[".repeat(8 - units) + "g", 8);
        } else {
            at.law("y:" + openers, 8);
            at.law("y:" + openers + "g=1" + closers + "?1", 8);
        }
        if (closers.isEmpty() || !openers.contains("!") || openers.startsWith("!(!(")) {
            s.follow(1, "y:" + (openers + "[[[[[[").substring(0, 6), DIGITS + LETTERS);
        }
    }

    private static void nestedSides() {
        Sentence s = Sentence.of(4, "At most six of ( [ ! within one another.");
        s.follow(1, "y:[[[[[", SUM_STARTS);
        s.follow(1, "y:!(!(!", UNIT_STARTS);
        s.law("y:[[[[[[1]]]]]]+[[[[[[2]]]]]]*[[[[[[3]]]]]]", NONE);
        s.law("y:!!!!!!g=1&!!!!!!g=2|!!!!!!g=3?[[[[[[1]]]]]]", NONE);
        s.law("y:((((((g=1))))))&((((((g=2))))))|((((((g=3))))))?1", NONE);
        s.law("y:[[[[[[1]]]]]]=[[[[[[2]]]]]]?1;y:[[[[[[3]]]]]]", NONE);
        s.law("y:[[[[[[1]]]]]]+[[[[[[[2", 22);
        s.law("y:!g=1&[[[[[[1]]]]]]=1?1", NONE);
        s.law("y:g=1&[[[[[[1]]]]]]=1?1", NONE);
        s.law("y:g=1|!!!!!!g=[1]?1", 14);
        s.law("y:g=1|!!!!!!g=1?1", NONE);
        s.law("y:g=1&((((((g=1))))))?1", NONE);
        s.law("y:[[[[[[g]]]]]]=1&((((((g=1))))))|[[[[[[1]]]]]]>2?[[[[[[1]]]]]]", NONE);
        s.law("y:!g=1&!g=[[[[[[1", 15);
        s.law("y:!(g=1&[[[[1]]]]=2&[[[[[1", 24);
        s.law("y:(((((([1", 8);
        s.law("y:g=1?[[[[[[[1", 12);
        s.worth("y:[[[[[[g]]]]]]+[[[[[[t]]]]]]*[[[[[[2]]]]]]", 14);
        s.worth("y:!!!!!!g=8?1;y:2", 1);
        s.worth("y:!!!!!g=8?1;y:2", 2);
        s.worth("y:!(!(!(g=8)))?1;y:2", 2);
    }
}
