/** For each promise: ordinary inputs, the edges that the document names, wrong inputs; answers worked by hand. */
final class PromiseTests {
    private static final int NONE = SaintCarried.NONE;
    private static final int HIDDEN = SaintCarried.HIDDEN;
    private static final int LEAST = Integer.MIN_VALUE;
    private static final int MOST = Integer.MAX_VALUE;

    /** Houses 0 (2, 1) 8; 1 (4, 1) 3; 2 (0, 5) 0; 3 (5, 5) 6, thankful. */
    private static final String TOWN = "st30c10e3;hx2y1g8;hx4y1g3;hy5g0;hx5y5g6q1;bs12;bs6";
    /** Houses (0, 0) and (1, 0), 5 each; a bearer of 20; all as usual. */
    private static final String USUAL = "h;hx1;b";

    private PromiseTests() {
    }

    static void runAll() {
        texts();
        told();
        acts();
        past();
        ways();
        stood();
        games();
        litters();
        seen();
        odds();
        sums();
        counts();
    }

    private static void due(String what, long got, long want) {
        Check.due(what, got, want);
    }

    private static void due(String what, boolean got, boolean want) {
        Check.due(what, got, want);
    }

    // ---- 1 to 5: the tape ----

    private static void texts() {
        newObject();
        tape();
        townFaults();
        townNumbers();
        lawFaults();
        lawNesting();
        readTexts();
    }

    private static void newObject() {
        SaintCarried x = new SaintCarried();
        for (int what = 0; what <= 15; what++) {
            due("1: count " + what, x.count(what), what == 4 || what == 7 ? NONE : what == 11 ? 7 : 0);
        }
        due("1: rule", x.rule(0), NONE);
        due("1: house", Check.house(x, 0, 0), HIDDEN);
        due("1: most", x.most(4), NONE);
        due("1: fault", x.fault(0), 0);
        due("1: NONE", NONE, -1);
        due("1: HIDDEN", HIDDEN, -1000000);
    }

    private static void tape() {
        SaintCarried x = new SaintCarried();
        due("2: nothing", x.feed(0, 0, 0, 0, 0), 0);
        due("2: zeros left out", x.feed(0x68003b00, 0x00006800, 0x00000078, 0x31003b62, 0), 7);
        due("2: highest first", x.fault(0), NONE);
        due("2: bytes above 127", x.feed(-1, 0, 0, 0, 0x80000000), 12);
        due("2: they are wrong", x.fault(0), 7);
        due("3: beyond", x.end(13), false);
        due("3: below 0", x.end(-1), false);
        due("3: least", x.end(LEAST), false);
        due("3: kept", x.count(3), 12);
        due("3: all", x.end(12), true);
        due("3: seven", x.end(7), true);
        due("3: the first ones", x.fault(0), NONE);
        due("3: none", x.end(0), true);
        due("3: none again", x.end(0), true);
        for (int i = 1; i <= 12; i++) {
            due("2: to 240", x.feed(-1, -1, -1, -1, -1), 20 * i);
        }
        due("2: beyond 240", x.feed(0, 0, 0, 0, 1), NONE);
        due("2: none more", x.feed(0, 0, 0, 0, 0), 240);
        x.end(239);
        due("2: two too many", x.feed(1, 0, 0, 0, 1), NONE);
        due("2: nothing came", x.count(3), 239);
        due("2: the last", x.feed(0, 0, 0x100, 0, 0), 240);
        for (int number = 0; number < 5; number++) {
            due("2: each counts", x.feed(one(number, 0), one(number, 1), one(number, 2), one(number, 3), one(number, 4)), NONE);
        }
        x.end(231);
        due("2: ten are too many", x.feed(0x0101, 0x01000001, 0x01010000, 0x00010100, 0x01000100), NONE);
        due("2: nine are not", x.feed(0x0101, 0x01000001, 0x01010000, 0x00010100, 0x01000000), 240);
    }

    private static int one(int number, int place) {
        return number == place ? 0x00ff0000 : 0;
    }

    private static void town(String text, int want) {
        due("4: town '" + text + "'", Check.fault(text, 0), want);
    }

    private static void townFaults() {
        town("", 0);
        town("   ", 3);
        town(USUAL, NONE);
        town(" h ; h x 1 ; b ", NONE);
        town("h;hx1;b;", 8);
        town("h;hx1;b ; ", 10);
        town("h;hx1", 5);
        town("h;b", 3);
        town("h;h;b", 5);
        town("h;hx0y00;b", 10);
        town("hx3y4;hx1;hy4x3;b;s  ", 21);
        town("b;h;s;hy1", NONE);
        town("s;h;hx1;b;s", 10);
        town("s;s", 2);
        town("h;h;h;h;h;h;h;h", 14);
        town("b;b;b;b;b;b", 10);
        town("b;b;b;b;b;h;hx1;hx2;hx3;hx4;hx5;hx6;s", NONE);
        town(";h", 0);
        town("h;;", 2);
        town("H", 0);
        town("h h", 2);
        town("hx1x2", 3);
        town("hx1y1g1q1x", 9);
        town("hq0q", 3);
        town("hs1", 1);
        town("sx1", 1);
        town("bg1", 1);
        town("sq1", 1);
        town("\th", 0);
        town("h\u00e9", 1);
        town("h:", 1);
    }

    private static void townNumbers() {
        town("hx", 2);
        town("hx;", 2);
        town("hxy", 2);
        town("hx-1", 2);
        town("hx1 2", 4);
        town("hx9", 3);
        town("hx09y9g30q01;h;b", NONE);
        town("hx10", 3);
        town("hy10;", 3);
        town("hg30", 4);
        town("hg31", 3);
        town("hq2", 2);
        town("hx100", 4);
        town("hx001", 4);
        town("st0", 2);
        town("st00", 3);
        town("st000", 4);
        town("st99c99e9;h;hx1;bs40", NONE);
        town("se10", 3);
        town("st100", 4);
        town("bs0", 2);
        town("bs41", 3);
        town("bs1;hg0;hy9", NONE);
        due("4: no such sort", Check.fault(USUAL, 2), -2);
        due("4: no such sort", Check.fault(USUAL, -1), -2);
    }

    private static void law(String text, int want) {
        due("4: law '" + text + "'", Check.fault(text, 1), want);
    }

    private static void lawFaults() {
        law("", 0);
        law("  ", 2);
        law("x", 0);
        law("y", 1);
        law("y:", 2);
        law("yg", 1);
        law("y:g", NONE);
        law(" y : g ", NONE);
        law("y:g;", 4);
        law("y:g;x", 4);
        law("y:g;y:1", NONE);
        law("y:a", 2);
        law("y:gg", 3);
        law("y:1g", 3);
        law("y:1234", NONE);
        law("y:12345", 6);
        law("y:00000", 6);
        law("y:1 2", 4);
        law("y:-1", 2);
        law("y:1-", 4);
        law("y:g+q*t/n-d+y", NONE);
        law("y:g=1", 5);
        law("y:g=1;", 5);
        law("y:g=1?", 6);
        law("y:g=1?2", NONE);
        law("y:g<1|t>2&n=3?2;y:0", NONE);
        law("y:g=1?2?3", 7);
        law("y:g=1?2=3", 7);
        law("y:g=1=2", 5);
        law("y:g<=2", 4);
        law("y:g&", 3);
        law("y:g?1", 3);
        law("y:g=1&?", 6);
        law("y:g=1&(t=1|!n=1)?[g+1]*2", NONE);
        law("y:g=1?!g=1", 6);
        law("y:g=1?(g)", 6);
        law("y:g\u00e9", 3);
    }

    private static void lawNesting() {
        law("y:(g=1)=2", 7);
        law("y:(g=1)+1", 7);
        law("y:(g)", 4);
        law("y:(g+1", 6);
        law("y:(g=1", 6);
        law("y:(g=1)", 7);
        law("y:(g=1)?1", NONE);
        law("y:g=(", 4);
        law("y:g=1)", 5);
        law("y:g]", 3);
        law("y:[g=1]", 4);
        law("y:[g", 4);
        law("y:[!g]", 3);
        law("y:[]", 3);
        law("y:!g", 4);
        law("y:!g;", 4);
        law("y:!g=1", 6);
        law("y:!!!!!!g=1?1", NONE);
        law("y:!!!!!!!g=1?1", 8);
        law("y:((((((g=1))))))?1", NONE);
        law("y:(((((((g=1", 8);
        law("y:[[[[[[g]]]]]]", NONE);
        law("y:[[[[[[[g", 8);
        law("y:!(!(!([g]=1)))?1", 8);
        law("y:!(!(!(g=1)))?[[[[[[1]]]]]]", NONE);
        law("y:!g=1&!g=2&[[[[[[1]]]]]]=1?1", NONE);
        law("y:!g=[[[[[[1", 10);
        law("y:!(g=1)|[[[[[[g]]]]]]<1?1", NONE);
        law("y:[g]=1&[[t]]>1?[g]*[[1]]", NONE);
        law("y:g=[[[[[[1]]]]]]?1", NONE);
        law("y:g=1&((((((t=1))))))|[[[[[[1]]]]]]>2?1", NONE);
        law("y:g=1&(((((((t=1", 12);
    }

    private static void readTexts() {
        SaintCarried x = new SaintCarried();
        Check.feed(x, USUAL);
        due("5: no such sort", x.text(2), NONE);
        due("5: no such sort", x.text(LEAST), NONE);
        due("5: no law", x.text(1), NONE);
        due("5: the tape stays", x.count(3), 7);
        due("5: a town", x.text(0), 2);
        due("5: the tape is empty", x.count(3), 0);
        due("5: a fault", x.text(0), NONE);
        due("5: the town stays", x.count(0), 2);
        for (int law = 0; law < 4; law++) {
            Check.feed(x, "y:" + law);
            due("5: a law", x.text(1), law);
        }
        Check.feed(x, "y:4");
        due("5: four laws", x.text(1), NONE);
        due("5: its text stays", x.count(3), 3);
        due("5: four", x.count(2), 4);
        anotherTown();
    }

    private static void anotherTown() {
        SaintCarried x = Check.town(TOWN, "y:2");
        x.carry(0);
        x.gift(1, 1);
        x.image();
        x.year();
        x.stood(0, 0, 2);
        x.seen(0, 0, true);
        x.faith(3);
        x.carry(9);
        Check.feed(x, "hx1;hy1;hx2;bs3;bs4;st9");
        due("5: another town", x.text(0), 3);
        int[] want = {3, 2, 1, 0, 0, 0, 0, NONE, 0, 0, 0, 3, 0, 0, 0, 0};
        for (int what = 0; what < want.length; what++) {
            due("5: of it count " + what, x.count(what), want[what]);
        }
        due("5: status stays", x.status(0), 1);
        due("5: its grievance", Check.house(x, 0, 2), 5);
        due("5: its coins", x.rule(1), 20);
        due("5: no image of it", x.back(), NONE);
        due("5: nothing to undo", x.undo(), NONE);
        due("5: no log", x.log(0, 0), NONE);
        due("5: the law holds", x.stands(0), 2);
    }

    // ---- 6 to 11: what is told ----

    private static void told() {
        rules();
        houses();
        holding();
        worths();
        bounds();
        steps();
    }

    private static void rules() {
        SaintCarried x = Check.town(TOWN);
        due("6: time", x.rule(0), 30);
        due("6: coins", x.rule(1), 10);
        due("6: growth", x.rule(2), 3);
        due("6: strength", x.rule(3), 18);
        due("6: no such", x.rule(4), NONE);
        due("6: no such", x.rule(-1), NONE);
        x.give(5);
        due("6: coins now", x.rule(1), 15);
        SaintCarried usual = Check.town(USUAL);
        due("6: usual time", usual.rule(0), 60);
        due("6: usual coins", usual.rule(1), 20);
        due("6: usual growth", usual.rule(2), 2);
        due("6: usual strength", usual.rule(3), 20);
        due("8: first", x.bearer(0), 12);
        due("8: second", x.bearer(1), 6);
        due("8: no third", x.bearer(2), NONE);
        due("8: below", x.bearer(-1), NONE);
        due("8: far", x.bearer(MOST), NONE);
    }

    private static void houses() {
        SaintCarried x = Check.town(TOWN);
        due("7: x", Check.house(x, 3, 0), 5);
        due("7: y", Check.house(x, 0, 1), 1);
        due("7: grievance", Check.house(x, 1, 2), 3);
        due("7: thankful", Check.house(x, 3, 3), 1);
        due("7: not thankful", Check.house(x, 2, 3), 0);
        due("7: not yet", Check.house(x, 0, 4), 0);
        x.carry(0);
        due("7: was there", Check.house(x, 0, 4), 1);
        due("7: grievance now", Check.house(x, 0, 2), 3);
        x.year();
        due("7: another year", Check.house(x, 0, 4), 0);
        due("7: no such house", Check.house(x, 4, 0), HIDDEN);
        due("7: below", Check.house(x, -1, 0), HIDDEN);
        due("7: no such what", Check.house(x, 0, 5), HIDDEN);
        due("7: below", Check.house(x, 0, -1), HIDDEN);
        due("7: far", Check.house(x, MOST, LEAST), HIDDEN);
    }

    private static void holding() {
        SaintCarried x = Check.town(TOWN);
        due("9: none there", x.law(0), false);
        due("9: none", x.law(NONE), true);
        Check.feed(x, "y:7");
        x.text(1);
        due("9: it doesn't hold yet", x.stands(0), 5);
        due("9: the first", x.law(0), true);
        due("9: again", x.law(0), true);
        due("9: it holds", x.stands(0), 7);
        due("9: no such", x.law(1), false);
        due("9: no such", x.law(-2), false);
        due("9: it holds still", x.count(4), 0);
        due("9: none again", x.law(-1), true);
        due("9: none holds", x.stands(0), 5);
        SaintCarried bare = new SaintCarried();
        due("9: none without a town", bare.law(NONE), true);
    }

    private static void worth(String law, int want) {
        // House 0: grievance 8, not thankful, three steps: comes at 3.
        due("11: " + law, Check.town(TOWN, law).stands(0), want);
    }

    private static void worths() {
        worth("y:g", 8);
        worth("y:g-t", 5);
        worth("y:g-1-2", 5);
        worth("y:g/3*3", 6);
        worth("y:2+g*2", 18);
        worth("y:[2+g]*2", 20);
        worth("y:g/[t-3]", 0);
        worth("y:50+[2-g]/4", 49);
        worth("y:50+[2-g]/5", 49);
        worth("y:d*10+n+q+y", 30);
        worth("y:g+0", 8);
        worth("y:g*0+7", 7);
        worth("y:g<9&t=3?1;y:9", 1);
        worth("y:g>7&!g<8&3=t?1;y:9", 1);
        worth("y:!g<9|g<9&g=8?1;y:9", 1);
        worth("y:g=7?1;y:g=8?2;y:3", 2);
        worth("y:g=7?1", 0);
        worth("y:g=7?1;y:g<8?2;y:3", 3);
        worth("y:g>7&t>3?1;y:9", 9);
        worth("y:g>7|t>3&t>4?1;y:9", 1);
        worth("y:(g>7|t>3)?1;y:9", 1);
        worth("y:(g>7|t>3)&t>4?1;y:9", 9);
        worth("y:!g>7|t=3?1;y:9", 1);
        worth("y:!(g>7|t=3)?1;y:9", 9);
        worth("y:!!g>7?1;y:9", 1);
        worth("y:!g=7&t=3?1;y:9", 1);
        worth("y:g+1=t*3?1;y:9", 1);
        worth("y:9999*9999-9999*100-50", 50);
        worth("y:9999*100+9999-9999*100-50", 50);
        worth("y:0-9999*100-9999+9999*100+130", 30);
        worth("y:[0-9999]*9999+9999*100+130", 30);
    }

    private static void bounds() {
        due("11: none: half and one", Check.town(TOWN).stands(0), 5);
        due("11: none: cut", Check.town(TOWN).stands(1), 2);
        due("11: none: thankful", Check.town(TOWN).stands(3), 1);
        due("11: sixty at most", Check.town(TOWN, "y:61").stands(0), 60);
        due("11: sixty", Check.town(TOWN, "y:60").stands(0), 60);
        due("11: none at least", Check.town(TOWN, "y:0-1").stands(0), 0);
        due("11: q", Check.town(TOWN, "y:q").stands(3), 1);
        SaintCarried x = Check.town(TOWN, "y:n*20+y*10+1");
        due("11: first door", x.stands(1), 1);
        x.carry(0);
        due("11: second door", x.stands(1), 21);
        due("11: where he is", x.stands(0), 21);
        x.year();
        due("11: a year", x.stands(1), 11);
        SaintCarried there = Check.town(TOWN, "y:d*10+t");
        there.carry(2);
        due("11: carried none: too long", there.count(8), 0);
        due("11: no such", x.stands(4), NONE);
        due("11: no such", x.stands(-1), NONE);
    }

    private static void steps() {
        SaintCarried x = Check.town(TOWN);
        due("10: from the niche", x.steps(NONE, 3), 10);
        due("10: two", x.steps(1, 2), 8);
        due("10: back", x.steps(2, 1), 8);
        due("10: one", x.steps(1, 1), 0);
        due("10: no such", x.steps(0, 4), NONE);
        due("10: no such", x.steps(4, 0), NONE);
        due("10: no such", x.steps(-2, 0), NONE);
        due("10: no niche", x.steps(0, NONE), NONE);
        x.carry(1);
        due("10: from where he is", x.steps(NONE, 2), 8);
        due("10: there", x.steps(NONE, 1), 0);
    }

    // ---- 12 to 17, 19: acts ----

    private static void acts() {
        carry();
        carryLimits();
        rest();
        gift();
        give();
        year();
        faith();
        decades();
        status();
    }

    private static void carry() {
        SaintCarried x = Check.town(TOWN);
        due("12: eased", x.carry(0), 5);
        due("12: time", x.count(6), 8);
        due("12: tired", x.count(9), 3);
        due("12: there", x.count(7), 0);
        due("12: grievance", Check.house(x, 0, 2), 3);
        due("12: there", x.carry(0), NONE);
        due("12: two", x.status(2), 1);
        due("12: on", x.carry(1), 2);
        due("12: was there", x.carry(0), NONE);
        due("12: two", x.status(2), 2);
        due("12: no such", x.carry(4), NONE);
        due("12: no such", x.carry(NONE), NONE);
        due("12: two of none", x.status(0), 2);
        due("12: none refused was an act", x.count(15), 2);
        SaintCarried y = Check.town("hx1g3q1;hx2g1;b", "y:20");
        due("12: thankful: nothing", y.carry(0), 0);
        due("12: nothing off", Check.house(y, 0, 2), 3);
        due("12: no more than there is", y.carry(1), 1);
        due("12: none left", Check.house(y, 1, 2), 0);
        due("12: in all", y.count(10), 1);
    }

    private static void carryLimits() {
        SaintCarried x = Check.town("st9;hx9g0;hx8g0;bs9", "y:g");
        due("12: time to the full", x.carry(0), 0);
        due("12: time is out", x.count(6), 9);
        SaintCarried y = Check.town("st9;hx9g1;hx8g0;bs9", "y:g");
        due("12: one too late", y.carry(0), NONE);
        due("12: four", y.status(4), 1);
        due("12: nothing came of it", y.count(6), 0);
        SaintCarried z = Check.town("hx9g1;hx8g0;bs8");
        due("12: too tired", z.carry(0), NONE);
        due("12: four", z.status(4), 1);
        due("12: tired to the full", z.carry(1), 0);
        due("12: no strength left", z.most(5), 0);
        due("12: was there ahead of too tired", z.carry(1), NONE);
        due("12: two", z.status(2), 1);
    }

    private static void rest() {
        SaintCarried x = Check.town("st17;hx9y3g0;hx8;bs18", "y:0");
        due("13: nobody is tired", x.rest(), NONE);
        due("13: two", x.status(2), 1);
        x.carry(0);
        due("13: ten less", x.rest(), 2);
        due("13: time", x.count(6), 17);
        due("13: no time", x.rest(), NONE);
        due("13: four", x.status(4), 1);
        SaintCarried y = Check.town("st30;hx9g0;hx8;b", "y:0");
        y.carry(0);
        due("13: none at least", y.rest(), 0);
        due("13: nobody ahead of no time", y.rest(), NONE);
        due("13: two", y.status(2), 1);
        SaintCarried bare = new SaintCarried();
        due("13: no town", bare.rest(), NONE);
        due("13: none", bare.status(0), 1);
    }

    private static void gift() {
        SaintCarried x = Check.town(TOWN);
        due("14: less", x.gift(0, 3), 5);
        due("14: coins", x.rule(1), 7);
        due("14: eased not by him", x.count(10), 0);
        due("14: thankful ones too", x.gift(3, 6), 0);
        due("14: none of it", x.gift(3, 1), NONE);
        due("14: one", x.status(1), 1);
        due("14: of 0", x.gift(0, 0), NONE);
        due("14: of less", x.gift(0, LEAST), NONE);
        due("14: of 31", x.gift(0, 31), NONE);
        due("14: more than it has, too few coins too", x.gift(1, 4), NONE);
        due("14: five", x.status(1), 5);
        due("14: too few coins", x.gift(0, 2), NONE);
        due("14: three", x.status(3), 1);
        due("14: the last coin", x.gift(0, 1), 4);
        due("14: no such house, out of bounds too", x.gift(4, 0), NONE);
        due("14: none", x.status(0), 1);
        due("14: acts", x.count(15), 3);
        SaintCarried y = Check.town("sc99;hg30;hx1;b");
        due("14: thirty", y.gift(0, 30), 0);
    }

    private static void give() {
        SaintCarried x = Check.town("sc99;hx1;h;b");
        due("15: fifty", x.give(50), 149);
        due("15: none", x.give(0), NONE);
        due("15: fifty-one", x.give(51), NONE);
        due("15: most", x.give(MOST), NONE);
        for (int i = 0; i < 16; i++) {
            x.give(50);
        }
        due("15: to 999", x.give(50), 999);
        due("15: above", x.give(1), NONE);
        due("15: four out of bounds", x.status(1), 4);
        SaintCarried bare = new SaintCarried();
        due("15: no town", bare.give(0), NONE);
        due("15: none", bare.status(0), 1);
    }

    private static void year() {
        SaintCarried x = Check.town("se9;hx1g25;hx2g25q1;hx3g0;b");
        x.carry(2);
        due("16: the year", x.year(), 1);
        due("16: thirty at most", Check.house(x, 0, 2), 30);
        due("16: thankful ones not", Check.house(x, 1, 2), 25);
        due("16: grown", Check.house(x, 2, 2), 9);
        due("16: in his niche", x.count(7), NONE);
        due("16: time", x.count(6), 0);
        due("16: tired", x.count(9), 0);
        due("16: doors", x.count(8), 0);
        due("16: eased stays", x.count(10), 0);
        due("16: the log stays", x.count(14), 1);
        x.faith(0);
        for (int i = 0; i < 17; i++) {
            x.decades(60, i);
        }
        due("16: the last", x.count(5), 999);
        due("16: beyond", x.year(), NONE);
        due("16: four", x.status(4), 1);
        SaintCarried bare = new SaintCarried();
        due("16: no town", bare.year(), NONE);
        due("16: none", bare.status(0), 1);
    }

    private static void faith() {
        SaintCarried x = new SaintCarried();
        due("17: it is so", x.faith(7), false);
        due("17: nine", x.faith(9), true);
        due("17: none", x.faith(0), true);
        due("17: again", x.faith(0), false);
        due("17: ten", x.faith(10), false);
        due("17: below", x.faith(-1), false);
        due("17: it stays", x.count(11), 0);
    }

    private static void decades() {
        SaintCarried x = Check.town(TOWN);
        due("18: none", x.decades(0, 1), NONE);
        due("18: sixty-one", x.decades(61, 1), NONE);
        due("18: no town", new SaintCarried().decades(1, 1), NONE);
        due("18: no status", x.status(0) + x.status(1), 0);
        due("18: one", x.decades(1, 1) == NONE, false);
        due("18: one act", x.count(15), 1);
        long[] seeds = {0, 1, -1, 5, Long.MIN_VALUE, Long.MAX_VALUE, 1234567890123L};
        for (long seed : seeds) {
            compareDecades(seed);
        }
        x.faith(0);
        due("18: years alone", x.decades(60, 77), 0);
        due("18: sixty", x.count(5), 60);
        due("18: each is an act", x.undo(), 39);
        due("18: one by one", x.count(5), 59);
    }

    /** The same draws by hand, told to another object as carries and years. */
    private static void compareDecades(long seed) {
        SaintCarried one = Check.town(TOWN);
        SaintCarried other = Check.town(TOWN);
        int doors = 0;
        long x = seed;
        for (int act = 0; act < 30; act++) {
            x = x * 6364136223846793005L + 1442695040888963407L;
            if (Long.remainderUnsigned(x >>> 33, 10) < 7) {
                x = x * 6364136223846793005L + 1442695040888963407L;
                doors += other.carry((int) ((x >>> 33) % 4)) == NONE ? 0 : 1;
            } else {
                other.year();
            }
        }
        due("18: doors", one.decades(30, seed), doors);
        for (int what : new int[] {5, 6, 7, 8, 9, 10, 14}) {
            due("18: count " + what, one.count(what), other.count(what));
        }
        due("18: also if nothing came of it", one.count(15), 30);
        due("18: no status", one.status(2) + one.status(4), 0);
    }

    private static void status() {
        SaintCarried x = Check.town(TOWN);
        for (int what = 0; what <= 4; what++) {
            due("19: none yet", x.status(what), 0);
        }
        due("19: no such", x.status(5), NONE);
        due("19: no such", x.status(-1), NONE);
        x.carry(7);
        x.give(1);
        x.give(0);
        x.undo();
        due("19: not undone", x.status(0), 1);
        due("19: not undone", x.status(1), 1);
        x.image();
        x.carry(7);
        x.back();
        due("19: not by images", x.status(0), 2);
    }

    // ---- 20, 21, 41, 42: what was ----

    private static void past() {
        undo();
        undoMany();
        log();
        longLog();
        images();
    }

    private static void undo() {
        SaintCarried x = Check.town(TOWN);
        due("20: none", x.undo(), NONE);
        x.carry(0);
        x.rest();
        x.gift(1, 1);
        x.give(5);
        x.year();
        due("20: the year", x.undo(), 4);
        due("20: there again", x.count(7), 0);
        due("20: time again", x.count(6), 13);
        due("20: was there again", x.most(6), 1);
        due("20: coins", x.undo(), 3);
        due("20: less again", x.rule(1), 9);
        due("20: the gift", x.undo(), 2);
        due("20: its grievance", Check.house(x, 1, 2), 3);
        due("20: the rest", x.undo(), 1);
        due("20: tired again", x.count(9), 3);
        due("20: the door", x.undo(), 0);
        due("20: as at first", Check.house(x, 0, 2), 8);
        due("20: log too", x.count(14), 0);
        due("20: eased too", x.count(10), 0);
        due("20: no more", x.undo(), NONE);
        due("20: it can be again", x.carry(0), 5);
    }

    private static void undoMany() {
        SaintCarried x = Check.town(TOWN);
        for (int i = 0; i < 45; i++) {
            x.give(1);
        }
        due("20: the latest forty", x.count(15), 40);
        for (int i = 39; i >= 0; i--) {
            due("20: one by one", x.undo(), i);
        }
        due("20: not the first five", x.rule(1), 15);
        due("20: no more", x.undo(), NONE);
    }

    private static void log() {
        SaintCarried x = Check.town(TOWN);
        due("21: none", x.log(0, 0), NONE);
        x.carry(0);
        x.carry(3);
        int[] latest = {3, 1, 0, 16};
        int[] ahead = {0, 5, 5, 8};
        for (int what = 0; what < 4; what++) {
            due("21: the latest", x.log(0, what), latest[what]);
            due("21: ahead of it", x.log(1, what), ahead[what]);
        }
        due("21: no such", x.log(2, 0), NONE);
        due("21: no such", x.log(-1, 0), NONE);
        due("21: no such what", x.log(0, 4), NONE);
        due("21: no such what", x.log(0, -1), NONE);
        due("21: far", x.log(MOST, MOST), NONE);
    }

    private static void longLog() {
        SaintCarried x = Check.town("hx1g30;hx3g30;b", "y:y/2");
        for (int year = 0; year < 80; year++) {
            x.carry(year % 2);
            x.year();
        }
        due("21: sixty at most", x.count(14), 60);
        due("21: the latest", x.log(0, 0), 1);
        due("21: the oldest stood", x.log(59, 1), 10);
        due("21: the latest stood", x.log(0, 1), 39);
        due("21: none behind", x.log(60, 1), NONE);
        for (int i = 0; i < 40; i++) {
            x.undo();
        }
        due("20: log to the full again", x.count(14), 60);
        due("20: the latest then", x.log(0, 1), 29);
        due("20: the oldest then", x.log(59, 1), 0);
    }

    private static void images() {
        SaintCarried x = Check.town(TOWN);
        due("42: none yet", x.back(), NONE);
        x.carry(0);
        x.year();
        x.carry(1);
        due("41: the year", x.image(), 1);
        x.gift(0, 2);
        x.give(4);
        x.faith(2);
        x.year();
        x.carry(0);
        due("42: the year", x.back(), 1);
        due("42: grievance", Check.house(x, 0, 2), 6);
        due("42: coins", x.rule(1), 10);
        due("42: time", x.count(6), 9);
        due("42: tired", x.count(9), 5);
        due("42: where", x.count(7), 1);
        due("42: was", x.most(6), 2);
        due("42: log", x.count(14), 2);
        due("42: the latest", x.log(0, 0), 1);
        due("42: eased", x.count(10), 9);
        due("42: faith is not kept", x.count(11), 2);
        due("42: none can be undone", x.undo(), NONE);
        x.year();
        due("42: once more", x.back(), 1);
        x.year();
        due("41: another", x.image(), 2);
        x.year();
        due("42: the other", x.back(), 2);
        due("41: no town", new SaintCarried().image(), NONE);
        due("42: no town", new SaintCarried().back(), NONE);
    }

    // ---- 22 to 25: ways ----

    private static void ways() {
        route();
        routeTies();
        order();
        shorter();
        roster();
    }

    private static void routeIs(String what, SaintCarried x, int row, int eased, int time) {
        due("22: row, " + what, x.route(0), row);
        due("22: eased, " + what, x.route(1), eased);
        due("22: time, " + what, x.route(2), time);
    }

    private static void route() {
        SaintCarried x = Check.town(TOWN);
        routeIs("as at first", x, 1, 7, 12);
        due("22: no such", x.route(3), NONE);
        due("22: no such", x.route(-1), NONE);
        due("22: no town", new SaintCarried().route(0), NONE);
        x.carry(0);
        routeIs("from the first", x, 1, 2, 12);
        x.carry(1);
        routeIs("nothing more", x, NONE, 0, 12);
        due("22: nothing is changed", x.count(6), 12);
        routeIs("no time", Check.town("st1;hx9;hx8;b"), NONE, 0, 0);
        // The far one first, as it stands with the doors: 0 first would ease 1 and 9.
        routeIs("by doors", Check.town("hx1g9;hx2g3;b", "y:n*9+3"), 10, 12, 18);
        routeIs("a thankful one on the way", Check.town("hx1g0q1;hx2g9;b", "y:n*9"), 1, 9, 11);
        routeIs("seven", Check.town("hx1g1;hx2g1;hx3g1;hx4g1;hx5g1;hx6g1;hx7g1;b"), 123456, 7, 14);
    }

    private static void routeTies() {
        routeIs("none eased", Check.town("hx1q1;hx2q1;b"), NONE, 0, 0);
        routeIs("the least row", Check.town("hx1g2;hy1g2;b"), 1, 4, 7);
        routeIs("fewer, though a longer one came first", Check.town("hx1g0;hx2g1;hx3g1;b"), 12, 2, 5);
        routeIs("one of two", Check.town("hx1g2;hy1g2;bs1"), 0, 2, 3);
        routeIs("the fewest", Check.town("hx1g1;hx2g2;hx3g3;bs3", "y:t=3?3;y:t=1?1;y:t=3?2;y:0"), 2, 3, 6);
    }

    private static void order() {
        SaintCarried x = Check.town(TOWN);
        due("23: row", x.order(0), 130);
        due("23: could", x.order(1), 3);
        due("23: no such", x.order(2), NONE);
        due("23: no such", x.order(-1), NONE);
        due("23: no town", new SaintCarried().order(0), NONE);
        x.carry(3);
        due("23: not where he was", x.order(0), 10);
        SaintCarried alike = Check.town("hx1g5;hx2g4;hx3g5;hx4g4;b");
        due("23: of several the lowest", alike.order(0), 1302);
        SaintCarried none = Check.town("hx1g0;hx2g0;b");
        due("23: no house", none.order(0), NONE);
        due("23: none", none.order(1), 0);
        due("23: the first can't be", Check.town("st9;hx9y9g1;hx1g2;b").order(1), 0);
        due("23: the second can't be", Check.town("hx1g1;hx9g2;hx2g3;bs8").order(1), 1);
    }

    private static void shorter() {
        SaintCarried x = Check.town(TOWN);
        due("24: three", x.shorter(0, 3), 3);
        due("24: none is needed", x.shorter(0, 5), 0);
        due("24: all of it", x.shorter(0, 1), 7);
        due("24: by none", x.shorter(0, 0), NONE);
        due("24: m", x.shorter(0, -1), NONE);
        due("24: m", x.shorter(0, 61), NONE);
        due("24: sixty", x.shorter(0, 60), 0);
        due("24: no such", x.shorter(4, 5), NONE);
        due("24: coins do not matter", Check.town("sc0;hx1g30;hx2;b").shorter(0, 1), 29);
        SaintCarried odd = Check.town("hx1g8;hx2;b", "y:g=6?2;y:9-[8-g]/9");
        due("24: not by more", odd.shorter(0, 2), 2);
        due("24: not by more", odd.shorter(0, 8), 2);
        due("24: the whole", Check.town("hx1g8;hx2;b", "y:g").shorter(0, 0), 8);
    }

    private static void roster() {
        SaintCarried x = Check.town("h;hx1;bs5;bs9;bs9;bs1");
        due("25: one", x.roster(1), 1);
        due("25: the least", x.roster(9), 2);
        due("25: two", x.roster(10), 3);
        due("25: two", x.roster(15), 6);
        due("25: three", x.roster(19), 7);
        due("25: all", x.roster(24), 15);
        due("25: too few", x.roster(25), NONE);
        due("25: bounds", x.roster(0), NONE);
        due("25: bounds", x.roster(201), NONE);
        due("25: no town", new SaintCarried().roster(1), NONE);
        due("25: not the first, the fewest", Check.town("h;hx1;bs5;bs5;bs10").roster(10), 4);
        due("25: two hundred", Check.town("h;hx1;bs40;bs40;bs40;bs40;bs40").roster(200), 31);
    }

    // ---- 26 to 28: how long he stood ----

    private static void stood() {
        tellStood();
        fits();
        ask();
    }

    private static void tellStood() {
        SaintCarried x = Check.town(TOWN);
        due("26: no such", x.stood(4, 0, 0), NONE);
        due("26: no such", x.stood(-1, 0, 0), NONE);
        due("26: time", x.stood(0, -1, 0), NONE);
        due("26: time", x.stood(0, 100, 0), NONE);
        due("26: long", x.stood(0, 0, -1), NONE);
        due("26: long", x.stood(0, 0, 61), NONE);
        due("26: bounds", x.stood(3, 99, 60), 1);
        for (int i = 2; i <= 10; i++) {
            due("26: to ten", x.stood(0, 0, 5), i);
        }
        due("26: no eleventh", x.stood(0, 0, 5), NONE);
        due("26: ten", x.count(12), 10);
        due("26: no act", x.count(15), 0);
    }

    private static void fits() {
        SaintCarried x = Check.town(TOWN);
        due("27: all", x.fits(0, NONE), 31);
        due("27: the last", x.fits(0, 30), 30);
        due("27: none behind", x.fits(0, 31), NONE);
        x.stood(0, 3, 5);
        due("27: two", x.fits(0, NONE), 2);
        due("27: first", x.fits(0, 0), 8);
        due("27: second", x.fits(0, 1), 9);
        due("27: no third", x.fits(0, 2), NONE);
        due("27: below", x.fits(0, -2), NONE);
        due("27: another house", x.fits(1, NONE), 31);
        due("27: no such", x.fits(4, NONE), NONE);
        x.stood(0, 3, 4);
        due("27: both can't be", x.fits(0, NONE), 0);
        due("27: none", x.fits(0, 0), NONE);
        SaintCarried y = Check.town("hx3g5;hx5q1;b", "y:g+d+t+n*50+y+q");
        y.stood(0, 10, 20);
        y.stood(1, 10, 20);
        y.carry(1);
        due("27: as the first, from the niche", y.fits(0, 0), 7);
        due("27: thankful", y.fits(1, 0), 4);
        y.year();
        due("27: the year now", y.fits(0, 0), 6);
        due("27: one", y.fits(0, NONE), 1);
    }

    private static void ask() {
        SaintCarried x = Check.town("hx1;hx2;b", "y:t=5?g;y:1");
        due("28: of several the lowest", x.ask(5), 0);
        due("28: all alike", x.ask(0), 0);
        x.stood(1, 5, 7);
        due("28: the smallest", x.ask(0), 1);
        due("28: as small", x.ask(5), 0);
        x.stood(1, 5, 8);
        due("28: nothing fits", x.ask(0), 0);
        x.stood(0, 0, 2);
        due("28: nothing of any", x.ask(0), NONE);
        due("28: below", x.ask(-1), NONE);
        due("28: above", x.ask(100), NONE);
        due("28: no town", new SaintCarried().ask(0), NONE);
        due("28: below, all fits", Check.town(TOWN).ask(-1), NONE);
        due("28: above, all fits", Check.town(TOWN).ask(100), NONE);
        // Of house 0 seventeen (0 to 16) are alike, of house 1 sixteen (1 to 16).
        SaintCarried most = Check.town("hx1;hx2q1;b", "y:q=1&g>0&g<17?1;y:q=1?2;y:g<17?1;y:2");
        due("28: from none on", most.ask(0), 1);
        // Of house 0 seventeen (14 to 30) are alike, of house 1 sixteen (14 to 29).
        SaintCarried high = Check.town("hx1;hx2q1;b", "y:q=1&g>13&g<30?1;y:q=1?2;y:g>13?1;y:2");
        due("28: up to thirty", high.ask(0), 1);
        due("28: all stand sixty", Check.town("hx1;hx2;b", "y:99").ask(0), 0);
        due("28: none stands", Check.town("hx1;hx2;b", "y:0").ask(0), 0);
        SaintCarried y = Check.town("hx1q1;hx2g0;b");
        due("28: thankful ones all alike", y.ask(99), 1);
    }

    // ---- 29, 30: games ----

    private static void games() {
        SaintCarried x = Check.town(TOWN);
        due("29: no claim", x.game(0, 1, 0, 0, 0), 5);
        due("29: half of its own", x.game(0, 1, 2, 0, 0), 5);
        due("29: the other claims more", x.game(0, 1, 2, 0, 1), -2);
        due("29: four less", x.game(0, 1, 0, 3, 0), 1);
        due("29: the other has", x.game(0, 1, 0, 3, 1), 3);
        due("29: no such", x.game(0, 4, 0, 0, 0), HIDDEN);
        due("29: no such", x.game(-1, 0, 0, 0, 0), HIDDEN);
        due("29: alike", x.game(1, 1, 0, 0, 0), HIDDEN);
        due("29: bounds", x.game(0, 1, 10, 0, 0), HIDDEN);
        due("29: bounds", x.game(0, 1, 0, 10, 0), HIDDEN);
        due("29: bounds", x.game(0, 1, -1, 0, 0), HIDDEN);
        due("29: bounds", x.game(0, 1, 0, -1, 1), HIDDEN);
        due("29: no such what", x.game(0, 1, 0, 0, 2), HIDDEN);
        due("29: no such what", x.game(0, 1, 0, 0, -1), HIDDEN);
        due("30: five", x.rests(0, 1, NONE), 5);
        int[] want = {11, 33, 55, 77, 99};
        for (int i = 0; i < want.length; i++) {
            due("30: rising", x.rests(0, 1, i), want[i]);
        }
        due("30: no sixth", x.rests(0, 1, 5), NONE);
        due("30: below", x.rests(0, 1, -2), NONE);
        due("30: alike", x.rests(0, 0, NONE), NONE);
        due("30: no such", x.rests(0, 4, NONE), NONE);
        due("30: no such", x.rests(-1, 0, NONE), NONE);
        SaintCarried y = Check.town("hx1g28;hx2g0;b", "y:g+n*10");
        due("29: thirty at most", y.game(0, 1, 5, 0, 0), 28);
        // The other has most by nine whatever one claims; one has 26 by nine then, 25 at most by less.
        due("30: one", y.rests(0, 1, NONE), 1);
        due("30: nines", y.rests(0, 1, 0), 99);
        y.carry(1);
        due("29: as he is", y.game(0, 1, 0, 0, 0), 38);
        SaintCarried z = Check.town("hx1;hx2;b", "y:9");
        due("30: as much as the other", z.rests(0, 1, NONE), 10);
        due("30: none at all", z.rests(0, 1, 0), 0);
        due("30: as good is no reason", z.rests(0, 1, 9), 99);
        SaintCarried truth = Check.town("hx1;hx2;b", "y:g=5?20;y:1");
        due("30: no claim is best", truth.rests(0, 1, NONE), 1);
        due("30: none of both", truth.rests(0, 1, 0), 0);
    }

    // ---- 31, 32: the rival ----

    private static void litters() {
        SaintCarried x = Check.town("hx1g1;hx2g0;hx5g0;hx3g2;hx3y4g0q1;b");
        due("31: the first", x.rival(1), 2);
        due("31: the second", x.rival(2), 7);
        due("31: thankful too", x.rival(4), 15);
        due("31: not there", x.rival(0), NONE);
        due("31: no such", x.rival(5), NONE);
        due("31: no such", x.rival(-1), NONE);
        x.gift(0, 1);
        due("31: without grievance now", x.rival(0), 1);
        due("31: later then", x.rival(1), 4);
        meets();
    }

    private static void meets() {
        // He comes at 3 and stands as long as told; it is at house 0 from 3 to 4.
        due("32: at once", Check.town("hx3g0;hx9;b", "y:0").meets(0), 1);
        SaintCarried x = Check.town("hx1g0;hx2g9;hx5g0;b", "y:t-t+n*9+1");
        // Rival: 1 to 3 at house 0, then 7 to 9 at house 2. He: 5 to 6.
        due("32: too early", x.meets(2), 0);
        due("32: it has a grievance", x.meets(1), 0);
        due("32: no such", x.meets(3), NONE);
        due("32: no such", x.meets(NONE), NONE);
        SaintCarried y = Check.town("hx1g0;hx2g9;hx5g0;b", "y:2");
        due("32: up to its coming", y.meets(2), 0);
        SaintCarried z = Check.town("hx1g0;hx2g9;hx5g0;b", "y:3");
        due("32: long enough", z.meets(2), 1);
        SaintCarried late = Check.town("hx1g0;hx2g1q1;hx5g0;b", "y:q*4");
        late.carry(1);
        // He comes at 6 + 3 = 9: it has gone.
        due("32: it has gone", late.meets(2), 0);
        SaintCarried ahead = Check.town("hy1g0;hx3g0;hx1g1q1;b", "y:q*3");
        ahead.carry(2);
        // He comes at 6 and is there one long though he doesn't stand; it comes at 7.
        due("32: one long, not two", ahead.meets(1), 0);
        due("32: it comes at 7", ahead.rival(1), 7);
        SaintCarried just = Check.town("hx1g0;hx2g1q1;hx5g0;b", "y:q*3");
        just.carry(1);
        due("32: its last", just.meets(2), 1);
    }

    // ---- 33, 34: the order seen ----

    private static void seen() {
        SaintCarried x = Check.town(TOWN);
        due("34: all, and none", x.who(5, NONE), 5);
        due("34: none is 9", x.who(5, 4), 9);
        due("34: no sixth", x.who(5, 5), NONE);
        due("34: below", x.who(5, -2), NONE);
        due("33: one", x.seen(0, 3, true), 1);
        due("34: the first had more", x.who(9, NONE), 1);
        due("34: it", x.who(9, 0), 1);
        due("34: not by four; of several the lowest", x.who(3, NONE), 0);
        due("34: by four", x.who(4, 0), 1);
        x.carry(1);
        x.year();
        due("34: as told at first", x.who(9, 0), 1);
        due("34: bounds", x.who(0, NONE), NONE);
        due("34: bounds", x.who(10, NONE), NONE);
        due("34: no town", new SaintCarried().who(1, NONE), NONE);
        tellSeen();
        notSeen();
    }

    private static void tellSeen() {
        SaintCarried x = Check.town(TOWN);
        due("33: no such", x.seen(0, 4, true), NONE);
        due("33: no such", x.seen(0, -1, true), NONE);
        due("33: bounds", x.seen(7, 0, true), NONE);
        due("33: bounds", x.seen(-1, 0, true), NONE);
        for (int i = 1; i <= 10; i++) {
            due("33: to ten", x.seen(6, 0, false), i);
        }
        due("33: no eleventh", x.seen(0, 0, true), NONE);
        due("33: ten", x.count(13), 10);
        due("33: no act", x.count(15), 0);
        due("34: none stands there", x.who(1, NONE), 5);
    }

    private static void notSeen() {
        SaintCarried x = Check.town(TOWN);
        // At first 1, 3, 0; with 2 by a grievance of 4: 1, 2, 3, 0.
        x.seen(1, 3, false);
        due("34: three", x.who(4, NONE), 3);
        due("34: which", x.who(4, 0), 1);
        due("34: which", x.who(4, 1), 2);
        due("34: which", x.who(4, 2), 3);
        x.seen(3, 0, true);
        due("34: one", x.who(4, NONE), 1);
        due("34: it", x.who(4, 0), 2);
        SaintCarried y = Check.town("hx1g28;hx2g30;b");
        y.seen(1, 0, true);
        due("34: thirty at most: the lowest first", y.who(9, NONE), 0);
        SaintCarried z = Check.town("hx1g30;hx2g28;b");
        z.seen(0, 0, true);
        due("34: thirty at most: as high", z.who(9, 0), 1);
    }

    // ---- 35: odds ----

    private static void odds() {
        SaintCarried x = Check.town(TOWN);
        due("35: dry", x.odds(3, 0), 1000000000);
        due("35: all rain", x.odds(3, 100), 0);
        due("35: halves", x.odds(3, 50), 875000000);
        due("35: two", x.odds(2, 100), 1000000000);
        due("35: fewer", x.odds(4, 0), 0);
        due("35: none", x.odds(0, 50), 1000000000);
        due("35: seven", x.odds(7, 50), 0);
        due("35: bounds", x.odds(8, 0), NONE);
        due("35: bounds", x.odds(-1, 0), NONE);
        due("35: bounds", x.odds(0, 101), NONE);
        due("35: bounds", x.odds(0, -1), NONE);
        due("35: no town", new SaintCarried().odds(0, 0), NONE);
        due("35: by time alone", Check.town("hx9g1;hx1g2;bs1").odds(2, 0), 1000000000);
        due("35: no time for it", Check.town("st9;hx9g1;hx1g2;b").odds(1, 0), 0);
        // Rain is 4 more: he comes at 13 instead of 9 and doesn't stand at all.
        due("35: stands by when he comes", Check.town("st13;hx9g1;hx1g2;b", "y:t>9?0;y:9").odds(1, 30), 300000000);
        // 1 and 1, then 2 and 2: rain on the second way is 1 more.
        due("35: stands by steps", Check.town("st6;hx1g1;hx3g2;b", "y:d").odds(2, 40), 600000000);
        due("35: stands by steps", Check.town("st7;hx1g1;hx3g2;b", "y:d").odds(2, 40), 1000000000);
        // 1, then 2 and 5 as the second door.
        due("35: stands by doors", Check.town("st8;hx1g1;hx3g2;b", "y:n*5").odds(2, 40), 600000000);
        due("35: no time for doors", Check.town("st7;hx1g1;hx3g2;b", "y:n*5").odds(2, 40), 0);
        x.carry(0);
        due("35: from here on", x.odds(2, 50), 1000000000);
        // Five ways, rain is lost at each: what is dry of 10 to the 9, the fifth 100ths cut.
        SaintCarried five = Check.town("st15;hx2g1;hx4g2;hx6g3;hx8g4;hx8y2g5;b", "y:1");
        due("35: parts", five.odds(5, 33), (int) (1000000000L * 67 / 100 * 67 / 100 * 67 / 100 * 67 / 100
            - 1000000000L * 67 / 100 * 67 / 100 * 67 / 100 * 67 / 100 * 33 / 100));
    }

    // ---- 36 to 40 ----

    private static void sums() {
        shares();
        most();
        years();
        waits();
        remains();
    }

    private static void shares() {
        SaintCarried x = Check.town(TOWN);
        due("36: cut", x.shares(0, 100), 47);
        due("36: thankful too", x.shares(3, 100), 35);
        due("36: none of it", x.shares(2, 999), 0);
        due("36: most", x.shares(0, 999), 470);
        due("36: of none", x.shares(0, 0), 0);
        due("36: bounds", x.shares(0, 1000), NONE);
        due("36: bounds", x.shares(0, -1), NONE);
        due("36: no such", x.shares(4, 1), NONE);
        due("36: no such", x.shares(-1, 1), NONE);
        due("36: one has one", Check.town("hg0;hx1g1;b").shares(1, 100), 100);
        due("36: none has any", Check.town("hg0;hx1g0;b").shares(0, 100), 0);
    }

    private static void most() {
        SaintCarried x = Check.town(TOWN);
        int[] first = {0, 0, 3, 4, 30, 18, 0, 0};
        for (int what = 0; what < first.length; what++) {
            due("37: at first " + what, x.most(what), first[what]);
        }
        due("37: no such", x.most(8), NONE);
        due("37: no such", x.most(-1), NONE);
        due("37: no town", new SaintCarried().most(3), NONE);
        x.carry(0);
        x.carry(1);
        int[] then = {3, 0, 3, 4, 18, 13, 3, 5};
        for (int what = 0; what < then.length; what++) {
            due("37: then " + what, x.most(what), then[what]);
        }
        SaintCarried second = Check.town("hg0;hx1g7;hx1y1g0;b");
        due("37: the second hardest", second.most(0), 1);
        due("37: the first and the last content", second.most(3), 5);
        due("37: at his niche", second.most(1), 0);
        due("37: the first farthest", Check.town("hx3;hx1;hx2;b").most(2), 0);
        SaintCarried alike = Check.town("hx1g3;hx2g3;hx1y1g3;b");
        due("37: of several the lowest", alike.most(0), 0);
        due("37: of several the lowest", alike.most(2), 1);
        alike.carry(0);
        due("37: another one, the lowest", alike.most(1), 1);
    }

    private static void years() {
        SaintCarried x = Check.town(TOWN);
        due("38: now", x.years(17), 0);
        due("38: in one", x.years(18), 1);
        due("38: in one", x.years(26), 1);
        due("38: in two", x.years(27), 2);
        due("38: thirty each", x.years(96), 10);
        due("38: never", x.years(97), NONE);
        due("38: bounds", x.years(0), NONE);
        due("38: bounds", x.years(201), NONE);
        due("38: no town", new SaintCarried().years(1), NONE);
        due("38: nothing goes by", x.count(5), 0);
        due("38: none grow", Check.town("se0;hx1;hx2;b").years(11), NONE);
        SaintCarried most = Check.town("se1;hx1g29;hx2g29;hx3g29;hx4g29;hx5g29;hx6g29;hx7g26;b");
        due("38: two hundred", most.years(200), 0);
        due("38: one", most.years(1), 0);
        due("38: two hundred and one", Check.town("hx1g30;hx2g30;hx3g30;hx4g30;hx5g30;hx6g30;hx7g30;b").years(201), NONE);
        due("38: slow", Check.town("se1;hx1g0;hx2g0;b").years(60), 30);
    }

    private static void waits() {
        SaintCarried x = Check.town(TOWN);
        due("39: two", x.waits(2), 3);
        due("39: all", x.waits(0), 15);
        due("39: one", x.waits(1), 15);
        due("39: five", x.waits(5), 1);
        due("39: six", x.waits(6), 0);
        due("39: bounds", x.waits(61), NONE);
        due("39: bounds", x.waits(-1), NONE);
        due("39: no town", new SaintCarried().waits(0), NONE);
        x.carry(0);
        due("39: not where he was", x.waits(0), 14);
        due("39: sixty", Check.town("hx1;hx2;b", "y:99").waits(60), 3);
    }

    private static void remains() {
        SaintCarried x = Check.town(TOWN);
        due("40: behind it", x.remains(0), 22);
        due("40: farther", x.remains(3), 19);
        due("40: no such", x.remains(4), HIDDEN);
        due("40: no such", x.remains(-1), HIDDEN);
        x.carry(0);
        due("40: then", x.remains(1), 18);
        due("40: where he is", x.remains(0), 20);
        due("40: too little", Check.town("st1;hx9g9;hx1;b").remains(0), 1 - 9 - 5);
    }

    // ---- 43 ----

    private static void counts() {
        SaintCarried x = Check.town(TOWN, "y:g/2+1-q*g/2");
        Check.feed(x, "y");
        x.faith(3);
        x.carry(1);
        x.year();
        x.carry(0);
        x.stood(0, 0, 0);
        x.seen(0, 0, false);
        x.seen(0, 1, false);
        int[] want = {4, 2, 1, 1, 0, 1, 9, 0, 1, 3, 8, 3, 1, 2, 2, 3};
        for (int what = 0; what < want.length; what++) {
            due("43: count " + what, x.count(what), want[what]);
        }
        due("43: others", x.count(16), HIDDEN);
        due("43: others", x.count(-1), HIDDEN);
        due("43: others", x.count(LEAST), HIDDEN);
        due("43: others", x.count(MOST), HIDDEN);
    }
}
