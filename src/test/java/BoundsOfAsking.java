/** Promises 22 to 32 and their part of Terms 3, sentence by sentence: ways, who stood how long, games, the rival. */
final class BoundsOfAsking {
    private static final int NONE = SaintCarried.NONE;
    private static final int HIDDEN = SaintCarried.HIDDEN;
    private static final int LEAST = Integer.MIN_VALUE;
    private static final int MOST = Integer.MAX_VALUE;
    private static final int[] FAR = {LEAST, -1000000, -2, MOST - 1, MOST};
    private static final String SEVEN = "hx1g1;hx2g1;hx3g1;hx4g1;hx5g1;hx6g1;hx7g1;b;st99";

    private BoundsOfAsking() {
    }

    static void runAll() {
        route();
        routeLimits();
        routeTies();
        order();
        orderCould();
        shorter();
        roster();
        stood();
        fits();
        fitsEnds();
        ask();
        askTies();
        game();
        gameLimits();
        rests();
        rival();
        meets();
    }

    // ---- 22 and 23: rows ----

    private static void routeIs(Sentence s, String what, SaintCarried x, int row, int eased, int time) {
        s.due(what + ": row", x.route(0), row);
        s.due(what + ": EASED", x.route(1), eased);
        s.due(what + ": TIME", x.route(2), time);
    }

    private static void route() {
        Sentence none = Sentence.of(22, "ROUTE: the row (0; 0 HOUSES: NONE), EASED (1), TIME (2). NONE: no TOWN, no such what.");
        routeIs(none, "no TIME for any", Check.town("st8;hx9;hx8y1;b"), NONE, 0, 0);
        routeIs(none, "too weak for any", Check.town("hx9;hx8y1;bs8"), NONE, 0, 0);
        routeIs(none, "nothing EASED: no GRIEVANCE", Check.town("hx1g0;hx2g0;b"), NONE, 0, 0);
        routeIs(none, "nothing EASED: THANKFUL", Check.town("hx1q1;hx2q1;b"), NONE, 0, 0);
        routeIs(none, "nothing EASED: he doesn't stand", Check.town("hx1;hx2;b", "y:0"), NONE, 0, 0);
        routeIs(none, "HOUSE 0 alone", Check.town("hx1g2;hx2g0;b"), 0, 2, 3);
        routeIs(none, "HOUSE 1 alone", Check.town("hx1g0;hx2g2;b"), 1, 2, 4);
        SaintCarried x = Check.town("hx1g2;hx2g2;b");
        x.carry(0);
        x.carry(1);
        routeIs(none, "all were", x, NONE, 0, x.count(6));
        none.due("TIME now", x.count(6), 6);
        none.due("what 3", x.route(3), NONE);
        none.due("what -1", x.route(-1), NONE);
        for (int far : FAR) {
            none.due("what " + far, Check.town("hx1g2;hx2;b").route(far), NONE);
        }
        for (int what = 0; what <= 2; what++) {
            none.due("no TOWN, what " + what, new SaintCarried().route(what), NONE);
        }
    }

    private static void routeLimits() {
        Sentence s = Sentence.of(22, "rows of unlike HOUSES (digits; none, too) to which he could still be CARRIED one behind the other this year (no REST)");
        routeIs(s, "all seven", Check.town(SEVEN), 123456, 7, 14);
        // 1 and 2 there, then 2 and 1: six.
        routeIs(s, "TIME to the full", Check.town("st6;hx1g2;hx3g1;b"), 1, 3, 6);
        routeIs(s, "TIME, one less", Check.town("st5;hx1g2;hx3g1;b"), 0, 2, 3);
        routeIs(s, "STRENGTH to the full", Check.town("hx1g2;hx3g1;bs3"), 1, 3, 6);
        routeIs(s, "STRENGTH, one less, no REST", Check.town("hx1g2;hx3g1;bs2"), 0, 2, 3);
        SaintCarried x = Check.town("hx1g9;hx2g9;hx3g1;b");
        x.carry(0);
        routeIs(s, "not where he is, though there is GRIEVANCE", x, 12, 6, 14);
        x.carry(1);
        routeIs(s, "not where he was", x, 2, 1, 14);
        x.year();
        routeIs(s, "another YEAR, GRIEVANCES 6, 6 and 3", x, 12, 10, 13);
        SaintCarried tired = Check.town("hx3g2;hx6g1;bs5");
        tired.carry(0);
        routeIs(s, "too TIRED from here", tired, NONE, 0, 5);
        tired.rest();
        routeIs(s, "behind a REST", tired, 1, 1, 14);
    }

    private static void routeTies() {
        Sentence s = Sentence.of(22, "the one by which most is EASED together (of several with the fewest HOUSES, then the least row)");
        // 2 alone is 3 and 2, TIME 5; 0 and 1 are 1 and 1, 1 and 1, TIME 4: both EASE 2.
        routeIs(s, "the fewest", Check.town("st5;hx1g1;hx2g1;hx3g2;b", "y:g"), 2, 2, 5);
        routeIs(s, "most, though more HOUSES", Check.town("st7;hx1g1;hx2g1;hx3g2;b", "y:g"), 12, 4, 7);
        routeIs(s, "the least of two", Check.town("hx1g2;hy1g2;bs1"), 0, 2, 3);
        routeIs(s, "the least of rows, HOUSE 0 first", Check.town("hx1g2;hy1g2;b"), 1, 4, 7);
        routeIs(s, "the least by its second HOUSE", Check.town("hx1y1g2;hx1g2;hy1g2;bs5"), 12, 6, 11);
        routeIs(s, "not the least in TIME", Check.town("hx9g2;hx1g2;b"), 1, 4, 21);
        routeIs(s, "one that EASES nothing left out", Check.town("hx1g0;hx2g1;hx3g0q1;hx4g1;b"), 13, 2, 6);
        routeIs(s, "one that EASES nothing needed", Check.town("hx1g0q1;hx2g9;b", "y:n*9"), 1, 9, 11);
    }

    private static void order() {
        Sentence s = Sentence.of(23, "ORDER: HOUSES where he was not this year that have a GRIEVANCE, the least first, the biggest last (of several the lowest first)");
        s.due("GRIEVANCE 0 and 1", Check.town("hx1g0;hx2g1;b").order(0), 1);
        s.due("GRIEVANCE 1 and 0", Check.town("hx1g1;hx2g0;b").order(0), 0);
        s.due("the biggest", Check.town("hx1g30;hx2g29;hx3g1;b").order(0), 210);
        s.due("all alike", Check.town(SEVEN).order(0), 123456);
        s.due("falling", Check.town("hx1g7;hx2g6;hx3g5;hx4g4;hx5g3;hx6g2;hx7g1;b").order(0), 6543210);
        s.due("of several the lowest", Check.town("hx1g5;hx2g4;hx3g5;hx4g4;hx5g5;b").order(0), 13024);
        s.due("THANKFUL ones too", Check.town("hx1g5;hx2g4q1;b").order(0), 10);
        SaintCarried x = Check.town("hx1g30;hx2g5;hx3g4;b");
        x.carry(0);
        s.due("not where he is", x.order(0), 21);
        x.carry(2);
        s.due("not where he was", x.order(0), 1);
        x.gift(1, 5);
        Sentence none = Sentence.of(23, "ORDER: the row (0; NONE: no HOUSE), how many he could (1). NONE: no TOWN, no such what.");
        none.due("no HOUSE is left", x.order(0), NONE);
        none.due("none he could", x.order(1), 0);
        x.year();
        s.due("another YEAR", x.order(0), 120);
        none.due("no HOUSE", Check.town("hx1g0;hx2g0;b").order(0), NONE);
        none.due("of none", Check.town("hx1g0;hx2g0;b").order(1), 0);
        none.due("what 2", x.order(2), NONE);
        none.due("what -1", x.order(-1), NONE);
        for (int far : FAR) {
            none.due("what " + far, x.order(far), NONE);
        }
        none.due("no TOWN, the row", new SaintCarried().order(0), NONE);
        none.due("no TOWN, how many", new SaintCarried().order(1), NONE);
    }

    private static void orderCould() {
        Sentence s = Sentence.of(23, "how many of these he could be CARRIED to so, one behind the other");
        s.due("all seven", Check.town(SEVEN).order(1), 7);
        s.due("not the first, though the second", Check.town("st9;hx9y9g1;hx1g2;b").order(1), 0);
        s.due("not the second, though the third", Check.town("hx1g1;hx9g2;hx2g3;bs8").order(1), 1);
        // 1 and 1, 1 and 2, 1 and 2: TIME 8, STEPS 3.
        s.due("TIME to the full", Check.town("st8;hx1g1;hx2g2;hx3g3;b").order(1), 3);
        s.due("TIME, one less", Check.town("st7;hx1g1;hx2g2;hx3g3;b").order(1), 2);
        s.due("STRENGTH to the full", Check.town("hx1g1;hx2g2;hx3g3;bs3").order(1), 3);
        s.due("STRENGTH, one less", Check.town("hx1g1;hx2g2;hx3g3;bs2").order(1), 2);
        SaintCarried x = Check.town("hx1g1;hx2g2;hx3g3;bs3");
        x.carry(2);
        s.due("from here, too TIRED", x.order(1), 0);
        x.rest();
        s.due("from here", x.order(1), 2);
    }

    // ---- 24 and 25 ----

    private static void shorter() {
        Sentence s = Sentence.of(24, "SHORT for a HOUSE and m (0 .. 60): the least GIFT (0 .. GRIEVANCE; COINS do not matter) by which he would STAND no longer than m, if he was CARRIED there now.");
        SaintCarried x = Check.town("sc0;hx1g8;hx2g30;hx3g0;b", "y:g*2");
        int[] want = {8, 8, 7, 7, 6};
        for (int m = 0; m < want.length; m++) {
            s.due("m " + m, x.shorter(0, m), want[m]);
        }
        s.due("m 15", x.shorter(0, 15), 1);
        s.due("m 16, as long as he STANDS", x.shorter(0, 16), 0);
        s.due("m 60", x.shorter(0, 60), 0);
        s.due("m 61", x.shorter(0, 61), NONE);
        s.due("m -1", x.shorter(0, -1), NONE);
        s.due("all of 30", x.shorter(1, 0), 30);
        s.due("no GRIEVANCE", x.shorter(2, 0), 0);
        SaintCarried other = Check.town("hx1g8;hx2;b", "y:g=6?2;y:g=0?3;y:9");
        s.due("a lesser one between", other.shorter(0, 2), 2);
        s.due("all of it", Check.town("hx1g8;hx2;b", "y:g=0?3;y:9").shorter(0, 3), 8);
        Sentence none = Sentence.of(24, "SHORT. NONE: by none, no such HOUSE, out of bounds.");
        none.due("by none", Check.town("hx1g8;hx2;b", "y:g=0?3;y:9").shorter(0, 2), NONE);
        none.due("not by more than there is", Check.town("hx1g8;hx2;b", "y:g<0?0;y:9").shorter(0, 8), NONE);
        none.due("without a LAW by none", Check.town("hx1g8;hx2;b").shorter(0, 0), NONE);
        none.due("the last HOUSE", x.shorter(2, 1), 0);
        none.due("behind the last", x.shorter(3, 1), NONE);
        none.due("HOUSE -1", x.shorter(-1, 1), NONE);
        none.due("no TOWN", new SaintCarried().shorter(0, 1), NONE);
        for (int far : FAR) {
            none.due("m " + far, x.shorter(0, far), NONE);
            none.due("HOUSE " + far, x.shorter(far, 1), NONE);
        }
    }

    private static void roster() {
        Sentence s = Sentence.of(25, "ROSTER for n (1 .. 200): the fewest BEARERS (bits; of several the least) whose STRENGTH together is n or more.");
        SaintCarried all = Check.town("h;hx1;bs40;bs40;bs40;bs40;bs40");
        s.due("n 0", all.roster(0), NONE);
        s.due("n 1", all.roster(1), 1);
        s.due("n 40", all.roster(40), 1);
        s.due("n 41", all.roster(41), 3);
        s.due("n 160", all.roster(160), 15);
        s.due("n 161", all.roster(161), 31);
        s.due("n 200", all.roster(200), 31);
        s.due("n 201", all.roster(201), NONE);
        s.due("n -1", all.roster(-1), NONE);
        SaintCarried x = Check.town("h;hx1;bs5;bs9;bs9;bs1;bs10");
        s.due("any one", x.roster(5), 1);
        s.due("the least of two alike", x.roster(9), 2);
        s.due("the last alone", x.roster(10), 16);
        s.due("the fewest, of several the least", x.roster(11), 3);
        s.due("two, all but the most", x.roster(18), 6);
        s.due("two, the most", x.roster(19), 18);
        s.due("three", x.roster(20), 7);
        Sentence none = Sentence.of(25, "ROSTER, as bits. NONE: all are too few, no TOWN, out of bounds.");
        none.due("all", x.roster(34), 31);
        none.due("one more than all", x.roster(35), NONE);
        none.due("one of 1: 1", Check.town("h;hx1;bs1").roster(1), 1);
        none.due("one of 1: 2", Check.town("h;hx1;bs1").roster(2), NONE);
        none.due("no TOWN", new SaintCarried().roster(1), NONE);
        for (int far : FAR) {
            none.due("n " + far, all.roster(far), NONE);
        }
    }

    // ---- 26 to 28: STOOD ----

    private static void stood() {
        Sentence s = Sentence.of(26, "STOOD (10 at most): at a HOUSE where he came at a TIME (0 .. 99) as the first DOOR he STOOD m (0 .. 60).");
        SaintCarried x = Check.town("hx1;hx2;b");
        s.due("TIME -1", x.stood(0, -1, 0), NONE);
        s.due("TIME 100", x.stood(0, 100, 0), NONE);
        s.due("m -1", x.stood(0, 0, -1), NONE);
        s.due("m 61", x.stood(0, 0, 61), NONE);
        s.due("none yet", x.count(12), 0);
        s.due("TIME 0, m 0", x.stood(0, 0, 0), 1);
        s.due("TIME 99, m 60", x.stood(1, 99, 60), 2);
        s.due("once more", x.stood(1, 99, 60), 3);
        for (int i = 4; i <= 10; i++) {
            s.due("to ten", x.stood(0, i, 3), i);
        }
        Sentence none = Sentence.of(26, "STOOD: how many there are. NONE: no such HOUSE, out of bounds, there are ten.");
        none.due("an eleventh", x.stood(0, 0, 0), NONE);
        none.due("ten", x.count(12), 10);
        SaintCarried y = Check.town("hx1;hx2;b");
        none.due("behind the last", y.stood(2, 0, 0), NONE);
        none.due("HOUSE -1", y.stood(-1, 0, 0), NONE);
        none.due("no TOWN", new SaintCarried().stood(0, 0, 0), NONE);
        for (int far : FAR) {
            none.due("HOUSE " + far, y.stood(far, 0, 0), NONE);
            none.due("TIME " + far, y.stood(0, far, 0), NONE);
            none.due("m " + far, y.stood(0, 0, far), NONE);
        }
        none.due("none of them is told", y.fits(0, NONE), 31);
        none.due("how many there are", y.stood(1, 0, 0), 1);
        SaintCarried eleven = Check.town("hx1;hx2;b", "y:g");
        for (int i = 0; i < 10; i++) {
            eleven.stood(0, i, 7);
        }
        eleven.stood(0, 0, 8);
        none.due("the eleventh is not told", eleven.fits(0, 0), 7);
    }

    private static void fits() {
        Sentence s = Sentence.of(27, "FITS of a HOUSE: GRIEVANCES (0 .. 30) by which all STOOD of it is so (STEPS from the NICHE, the YEAR now): how many, the i-th (rising).");
        SaintCarried x = Check.town("hx3g5;hx5q1;b", "y:g+d+t+n*50+y+q");
        s.due("none STOOD: all", x.fits(0, NONE), 31);
        x.stood(0, 10, 20);
        x.stood(1, 10, 20);
        x.carry(1);
        s.due("STEPS from the NICHE, as the first DOOR", x.fits(0, 0), 7);
        s.due("one alone", x.fits(0, NONE), 1);
        s.due("a THANKFUL one", x.fits(1, 0), 4);
        x.year();
        s.due("the YEAR now", x.fits(0, 0), 6);
        SaintCarried y = Check.town("hx3g5;hx5;b", "y:g/2+t-t/2*2");
        y.stood(0, 0, 4);
        s.due("first of two", y.fits(0, 0), 8);
        s.due("second of two", y.fits(0, 1), 9);
        s.due("of the other HOUSE all", y.fits(1, NONE), 31);
        y.stood(0, 1, 5);
        s.due("both so", y.fits(0, NONE), 2);
        y.stood(0, 3, 4);
        s.due("all can't be so", y.fits(0, NONE), 0);
        s.due("all can't be so: none", y.fits(0, 0), NONE);
    }

    private static void fitsEnds() {
        Sentence ends = Sentence.of(27, "GRIEVANCES (0 .. 30)");
        String law = "y:g<0?9;y:g=0?1;y:g=30?2;y:g>30?9;y:5";
        for (int stays = 1; stays <= 9; stays += stays == 2 ? 3 : stays == 5 ? 4 : 1) {
            SaintCarried x = Check.town("hx1;hx2;b", law);
            x.stood(0, 0, stays);
            ends.due("STOOD " + stays + ": how many", x.fits(0, NONE), stays == 9 ? 0 : stays == 5 ? 29 : 1);
            ends.due("STOOD " + stays + ": the first", x.fits(0, 0), stays == 9 ? NONE : stays == 5 ? 1 : stays == 1 ? 0 : 30);
        }
        Sentence none = Sentence.of(27, "FITS: how many (i NONE), the i-th. NONE: no such one, no such HOUSE.");
        SaintCarried all = Check.town("hx1;hx2;b");
        for (int i = 0; i <= 30; i++) {
            none.due("i " + i, all.fits(0, i), i);
        }
        none.due("i 31", all.fits(0, 31), NONE);
        none.due("i -2", all.fits(0, -2), NONE);
        none.due("the last HOUSE", all.fits(1, 30), 30);
        none.due("behind the last", all.fits(2, NONE), NONE);
        none.due("HOUSE -1", all.fits(-1, NONE), NONE);
        none.due("no TOWN", new SaintCarried().fits(0, NONE), NONE);
        for (int far : FAR) {
            none.due("i " + far, all.fits(0, far), NONE);
            none.due("HOUSE " + far, all.fits(far, NONE), NONE);
        }
    }

    private static void ask() {
        Sentence s = Sentence.of(28, "ASK for a TIME (0 .. 99)");
        // The second HOUSE alone tells its GRIEVANCES apart at TIME 0 and at TIME 99.
        SaintCarried x = Check.town("hx1;hx2;b", "y:d=2&t=0?g;y:d=2&t=99?g;y:1");
        s.due("TIME 0", x.ask(0), 1);
        s.due("TIME 99", x.ask(99), 1);
        s.due("TIME 1", x.ask(1), 0);
        s.due("TIME 98", x.ask(98), 0);
        s.due("TIME -1", x.ask(-1), NONE);
        s.due("TIME 100", x.ask(100), NONE);
        for (int far : FAR) {
            s.due("TIME " + far, x.ask(far), NONE);
        }
        Sentence none = Sentence.of(28, "ASK. NONE: nothing fits of any, no TOWN, out of bounds.");
        none.due("no TOWN", new SaintCarried().ask(0), NONE);
        x.stood(0, 5, 2);
        none.due("nothing fits of the first", x.ask(5), 1);
        x.stood(1, 5, 2);
        none.due("nothing fits of any", x.ask(5), NONE);
        none.due("nothing fits of any, TIME 0", x.ask(0), NONE);
    }

    private static void askTies() {
        Sentence s = Sentence.of(28, "the HOUSE of which the GRIEVANCES that FIT would have him STAND alike in the smallest greatest number, came he there then so (of several the lowest; those of which nothing fits: not)");
        s.due("all alike, the lowest", Check.town("hx1;hx2;hx3;b", "y:7").ask(0), 0);
        s.due("each apart, the lowest", Check.town("hx1;hx2;hx3;b", "y:g").ask(0), 0);
        s.due("all alike at 0", Check.town("hx1;hx2;b", "y:0").ask(0), 0);
        s.due("all alike at 60", Check.town("hx1;hx2;b", "y:60").ask(0), 0);
        // Of 31 GRIEVANCES alike: of HOUSE 0 21 and 10, of HOUSE 1 20 and 11, of HOUSE 2 20, 6 and 5.
        SaintCarried x = Check.town("hx1;hx2;hx3;b", "y:d=1?[g+9]/30;y:d=2?[g+10]/30;y:g<20?1;y:g<26?2;y:3");
        s.due("the greatest counts, the lowest of two", x.ask(0), 1);
        // Of HOUSE 1 GRIEVANCES 0 to 19 are left: 20 alike; of HOUSE 2 0 to 19 too.
        x.stood(1, 0, 0);
        s.due("those that FIT", x.ask(0), 1);
        x.stood(2, 0, 3);
        s.due("fewer FIT", x.ask(0), 2);
        x.stood(2, 0, 2);
        s.due("nothing FITS: not", x.ask(0), 1);
        // Of HOUSE 0 seventeen are alike, 0 to 16 or 14 to 30; of HOUSE 1 sixteen, without 0 or without 30.
        s.due("from GRIEVANCE 0 on", Check.town("hx1;hx2q1;b", "y:q=1&g>0&g<17?1;y:q=1?2;y:g<17?1;y:2").ask(0), 1);
        s.due("up to GRIEVANCE 30", Check.town("hx1;hx2q1;b", "y:q=1&g>13&g<30?1;y:q=1?2;y:g>13?1;y:2").ask(0), 1);
        SaintCarried first = Check.town("hx2;hx1;b", "y:n*9+d=2?g;y:1");
        first.carry(1);
        s.due("as the first DOOR, from the NICHE", first.ask(3), 0);
        SaintCarried year = Check.town("hx1;hx2;b", "y:d=2&y=1?g;y:1");
        s.due("the YEAR now, 0", year.ask(3), 0);
        year.year();
        s.due("the YEAR now, 1", year.ask(3), 1);
        SaintCarried thankful = Check.town("hx1;hx2q1;b", "y:q=1?g;y:1");
        s.due("as THANKFUL as it is", thankful.ask(0), 1);
    }

    // ---- 29 and 30: GAME ----

    private static void game() {
        Sentence s = Sentence.of(29, "what one has: how long he would STAND there as told by it (came he there now as he is), 4 less, if the other one claims more (of x and y) than it does, less half of its own x, cut");
        SaintCarried x = Check.town("hx1g10;hx2g20q1;b", "y:g");
        for (int a = 0; a <= 9; a++) {
            for (int b = 0; b <= 9; b++) {
                int one = 10 + a - (b > a ? 4 : 0) - a / 2;
                int other = 20 + b - (a > b ? 4 : 0) - b / 2;
                s.due("x " + a + ", y " + b + ", the one", x.game(0, 1, a, b, 0), one);
                s.due("x " + a + ", y " + b + ", the other", x.game(0, 1, a, b, 1), other);
            }
        }
        s.due("the other way round", x.game(1, 0, 3, 4, 0), 20 + 3 - 4 - 1);
        SaintCarried none = Check.town("hx1g10;hx2g20;b", "y:0");
        s.due("below 0", none.game(0, 1, 8, 9, 0), -8);
        SaintCarried as = Check.town("hx1g10;hx4g20;b", "y:d*10+t+n");
        s.due("from the NICHE", as.game(1, 0, 0, 0, 0), 44);
        as.carry(0);
        s.due("from there, later, the second DOOR", as.game(1, 0, 0, 0, 0), 30 + 15 + 1);
        s.due("where he is", as.game(0, 1, 0, 0, 0), 12 + 1);
        Sentence cap = Sentence.of(29, "GAME of two HOUSES: x, y (0 .. 9) how much more GRIEVANCE each claims (30 at most)");
        SaintCarried high = Check.town("hx1g28;hx2g30;b", "y:g");
        cap.due("30 to the full", high.game(0, 1, 2, 0, 0), 29);
        cap.due("one above", high.game(0, 1, 3, 0, 0), 29);
        cap.due("the other, above", high.game(0, 1, 0, 9, 1), 26);
        cap.due("one below", high.game(0, 1, 1, 0, 0), 29);
    }

    private static void gameLimits() {
        Sentence s = Sentence.of(29, "GAME: what the one has (0), the other (1). HIDDEN: no such ones, alike, out of bounds.");
        SaintCarried x = Check.town("hx1g10;hx2g20;b", "y:g");
        s.due("x 9", x.game(0, 1, 9, 0, 0), 15);
        s.due("y 9", x.game(0, 1, 0, 9, 1), 25);
        for (int what = 0; what <= 1; what++) {
            s.due("x 10", x.game(0, 1, 10, 0, what), HIDDEN);
            s.due("x -1", x.game(0, 1, -1, 0, what), HIDDEN);
            s.due("y 10", x.game(0, 1, 0, 10, what), HIDDEN);
            s.due("y -1", x.game(0, 1, 0, -1, what), HIDDEN);
            s.due("one behind the last", x.game(2, 1, 0, 0, what), HIDDEN);
            s.due("one -1", x.game(-1, 1, 0, 0, what), HIDDEN);
            s.due("the other behind the last", x.game(0, 2, 0, 0, what), HIDDEN);
            s.due("the other -1", x.game(0, -1, 0, 0, what), HIDDEN);
            s.due("alike, the first", x.game(0, 0, 0, 0, what), HIDDEN);
            s.due("alike, the last", x.game(1, 1, 0, 0, what), HIDDEN);
            s.due("no TOWN", new SaintCarried().game(0, 1, 0, 0, what), HIDDEN);
        }
        s.due("what 2", x.game(0, 1, 0, 0, 2), HIDDEN);
        s.due("what -1", x.game(0, 1, 0, 0, -1), HIDDEN);
        for (int far : FAR) {
            s.due("one " + far, x.game(far, 1, 0, 0, 0), HIDDEN);
            s.due("the other " + far, x.game(0, far, 0, 0, 0), HIDDEN);
            s.due("x " + far, x.game(0, 1, far, 0, 0), HIDDEN);
            s.due("y " + far, x.game(0, 1, 0, far, 0), HIDDEN);
            s.due("what " + far, x.game(0, 1, 0, 0, far), HIDDEN);
        }
    }

    private static void rests() {
        Sentence s = Sentence.of(30, "RESTS: 10 times x and y by which neither has more by another claim: how many, the i-th (rising).");
        restsAsGames(s, "hx1g10;hx2g20;b", "y:g");
        restsAsGames(s, "hx1g28;hx2g0;b", "y:g");
        restsAsGames(s, "hx1g28;hx2g30q1;b", "y:g*3-d");
        restsAsGames(s, "hx1g1;hx2g2;b", "y:g=1?30;y:g-g/3*3");
        restsAsGames(s, "hx1g5;hx2g7;b", "y:60-g*2");
        restsAsGames(s, "hx1g8;hx4g3;b", "y:9");
        restsAsGames(s, "hx1g8;hx4g3;b", "y:g-g/2*2*9");
        Sentence none = Sentence.of(30, "RESTS: how many (i NONE), the i-th. NONE: no such one, no such HOUSES, alike.");
        SaintCarried alike = Check.town("hx1;hx2;b", "y:9");
        none.due("as much as each other: ten", alike.rests(0, 1, NONE), 10);
        none.due("the first, none claims", alike.rests(0, 1, 0), 0);
        none.due("the last", alike.rests(0, 1, 9), 99);
        none.due("behind the last", alike.rests(0, 1, 10), NONE);
        none.due("i -2", alike.rests(0, 1, -2), NONE);
        none.due("alike", alike.rests(1, 1, NONE), NONE);
        none.due("one behind the last", alike.rests(2, 1, NONE), NONE);
        none.due("one -1", alike.rests(-1, 1, NONE), NONE);
        none.due("the other behind the last", alike.rests(0, 2, NONE), NONE);
        none.due("the other -1", alike.rests(0, -1, NONE), NONE);
        none.due("no TOWN", new SaintCarried().rests(0, 1, NONE), NONE);
        for (int far : FAR) {
            none.due("i " + far, alike.rests(0, 1, far), NONE);
            none.due("one " + far, alike.rests(far, 1, NONE), NONE);
            none.due("the other " + far, alike.rests(0, far, NONE), NONE);
        }
        SaintCarried never = Check.town("hx1g8;hx4g3;b", "y:d=1&g-g/2*2=0?10;y:d=1?1;y:g");
        none.due("of some none", never.rests(0, 1, never.rests(0, 1, NONE)), NONE);
    }

    /** All RESTS by the answers of GAME. */
    private static void restsAsGames(Sentence s, String town, String law) {
        int[][][] has = new int[2][10][10];
        SaintCarried x = Check.town(town, law);
        for (int pair = 0; pair < 100; pair++) {
            for (int what = 0; what < 2; what++) {
                has[what][pair / 10][pair % 10] = x.game(0, 1, pair / 10, pair % 10, what);
            }
        }
        int found = 0;
        for (int pair = 0; pair < 100; pair++) {
            boolean rests = true;
            for (int claim = 0; claim < 10; claim++) {
                rests &= has[0][claim][pair % 10] <= has[0][pair / 10][pair % 10];
                rests &= has[1][pair / 10][claim] <= has[1][pair / 10][pair % 10];
            }
            if (rests) {
                s.due(town + " by " + law + ", i " + found, x.rests(0, 1, found), pair);
                found++;
            }
        }
        s.due(town + " by " + law, x.rests(0, 1, NONE), found);
        s.due(town + " by " + law + ", none behind", x.rests(0, 1, found), NONE);
    }

    // ---- 31 and 32: RIVAL ----

    private static void rival() {
        Sentence s = Sentence.of(31, "RIVAL: another litter sets out with him each year from the NICHE to all HOUSES without GRIEVANCE now, by numbers, STEPS and 2 at each: when it comes to a HOUSE.");
        SaintCarried x = Check.town("hg0;hx3g0;hx5g1;hx2y4g0q1;hx9y9g30;hx1g2;hx1y4g0;b");
        int[] want = {0, 5, NONE, 12, NONE, NONE, 15};
        for (int house = 0; house < 7; house++) {
            s.due("HOUSE " + house, x.rival(house), want[house]);
        }
        x.gift(2, 1);
        int[] then = {0, 5, 9, 18, NONE, NONE, 21};
        for (int house = 0; house < 7; house++) {
            s.due("HOUSE 2 without GRIEVANCE: HOUSE " + house, x.rival(house), then[house]);
        }
        x.year();
        int[] grown = {NONE, NONE, NONE, 6, NONE, NONE, NONE};
        for (int house = 0; house < 7; house++) {
            s.due("another YEAR, HOUSE " + house, x.rival(house), grown[house]);
        }
        s.due("carried", x.carry(4), 16);
        s.due("not from where he is", x.rival(3), 6);
        Sentence none = Sentence.of(31, "RIVAL. NONE: it does not come, no such HOUSE.");
        none.due("GRIEVANCE of 1", Check.town("hx1g1;hx2g0;b").rival(0), NONE);
        none.due("GRIEVANCE of 0", Check.town("hx1g1;hx2g0;b").rival(1), 2);
        none.due("behind the last", Check.town("hx1g0;hx2g0;b").rival(2), NONE);
        none.due("HOUSE -1", x.rival(-1), NONE);
        none.due("no TOWN", new SaintCarried().rival(0), NONE);
        for (int far : FAR) {
            none.due("HOUSE " + far, x.rival(far), NONE);
        }
    }

    private static void meets() {
        Sentence s = Sentence.of(32, "MEETS of a HOUSE: whether both would be there at one TIME, if he was CARRIED there now: it from its TIME on, 2 long, he from when he comes as long as he STANDS (1 at least).");
        // It comes to HOUSE 1 at 5; he comes at 5 and as long as he STOOD at HOUSE 0.
        int[][] late = {{0, 0, 1}, {0, 60, 1}, {1, 0, 1}, {1, 1, 1}, {2, 0, 0}, {2, 60, 0}, {3, 60, 0}};
        for (int[] one : late) {
            SaintCarried x = Check.town("st99;hx1g30;hx5g0;b", "y:n=0?" + one[0] + ";y:" + one[1]);
            x.carry(0);
            s.due("it from 5 on, he from " + (5 + one[0]) + " on, " + one[1] + " long", x.meets(1), one[2]);
        }
        // It comes to HOUSE 1 at 15, behind HOUSE 0; he comes at 5 and as long as he STOOD at HOUSE 2.
        int[][] early = {{8, 2, 0}, {8, 3, 1}, {9, 0, 0}, {9, 1, 0}, {9, 2, 1}, {10, 0, 1}, {11, 0, 1}, {12, 0, 0}, {0, 9, 0}, {0, 10, 0}, {0, 11, 1}};
        for (int[] one : early) {
            SaintCarried x = Check.town("st99;hx9g0;hx5g0;hx1g30;b", "y:n=0?" + one[0] + ";y:" + one[1]);
            x.carry(2);
            s.due("it from 15 on, he from " + (5 + one[0]) + " on, " + one[1] + " long", x.meets(1), one[2]);
        }
        s.due("from the NICHE together", Check.town("hx9g0;hx5;b").meets(0), 1);
        s.due("it doesn't come", Check.town("hx9g1;hx5;b").meets(0), 0);
        s.due("though he couldn't be CARRIED", Check.town("st1;hx9g0;hx5;bs1").meets(0), 1);
        Sentence none = Sentence.of(32, "MEETS (1, 0). NONE: no such HOUSE.");
        SaintCarried x = Check.town("hx9g1;hx5g0;b");
        none.due("the first", x.meets(0), 0);
        none.due("the last", x.meets(1), 1);
        none.due("behind the last", x.meets(2), NONE);
        none.due("HOUSE -1", x.meets(-1), NONE);
        none.due("no TOWN", new SaintCarried().meets(0), NONE);
        for (int far : FAR) {
            none.due("HOUSE " + far, x.meets(far), NONE);
        }
    }
}
