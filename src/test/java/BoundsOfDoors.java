import java.util.ArrayList;
import java.util.List;
import java.util.NoSuchElementException;

/** Promises 6 to 16, 19 to 21 and Terms 2, sentence by sentence: how long he stands, where he can be carried, by hand. */
final class BoundsOfDoors {
    private static final int NONE = SaintCarried.NONE;
    private static final int HIDDEN = SaintCarried.HIDDEN;
    private static final int LEAST = Integer.MIN_VALUE;
    private static final int MOST = Integer.MAX_VALUE;
    private static final int[] FAR = {LEAST, -1000000, -2, MOST - 1, MOST};
    private static final String SEVEN = "hx1;hx2;hx3;hx4;hx5;hx6;hx7;b;b;st99";

    private BoundsOfDoors() {
    }

    static void runAll() {
        told();
        houses();
        law();
        steps();
        numbers();
        division();
        worth();
        stands();
        withoutLaw();
        letters();
        niche();
        eased();
        oncePerYear();
        timeThereIs();
        strength();
        carryRefused();
        rest();
        restRefused();
        gift();
        give();
        year();
        lastYear();
        status();
        statusFirst();
        log();
        logTurns();
        undo();
        undoMost();
        undoTurns();
    }

    // ---- 6 to 11 ----

    private static void told() {
        SaintCarried x = Check.town("st1c0e0;h;hx1;bs40;bs1");
        Sentence rule = Sentence.of(6, "NONE: no TOWN, no such what.");
        int[] want = {1, 0, 0, 41};
        for (int what = 0; what < 4; what++) {
            rule.due("what " + what, x.rule(what), want[what]);
            rule.due("no TOWN, what " + what, new SaintCarried().rule(what), NONE);
        }
        rule.due("what 4", x.rule(4), NONE);
        rule.due("what -1", x.rule(-1), NONE);
        Sentence bearer = Sentence.of(8, "STRENGTH of a BEARER. NONE: no such one.");
        bearer.due("the first", x.bearer(0), 40);
        bearer.due("the last", x.bearer(1), 1);
        bearer.due("behind it", x.bearer(2), NONE);
        bearer.due("ahead of the first", x.bearer(-1), NONE);
        bearer.due("no TOWN", new SaintCarried().bearer(0), NONE);
        for (int far : FAR) {
            rule.due("what " + far, x.rule(far), NONE);
            bearer.due("BEARER " + far, x.bearer(far), NONE);
        }
    }

    private static void houses() {
        Sentence s = Sentence.of(7, "4 whether he was there this year (1, 0). NoSuchElementException: no such ones.");
        SaintCarried x = Check.town("hx1y2g3q1;hx4y5g6;b");
        int[] want = {1, 2, 3, 1, 0, 4, 5, 6, 0, 0};
        for (int i = 0; i < want.length; i++) {
            s.due("HOUSE " + i / 5 + ", " + i % 5, Check.house(x, i / 5, i % 5), want[i]);
        }
        s.due("the HOUSE behind the last", Check.house(x, 2, 0), HIDDEN);
        s.due("HOUSE -1", Check.house(x, -1, 0), HIDDEN);
        s.due("what 5", Check.house(x, 1, 5), HIDDEN);
        s.due("what -1", Check.house(x, 1, -1), HIDDEN);
        s.due("no TOWN", Check.house(new SaintCarried(), 0, 0), HIDDEN);
        for (int far : FAR) {
            s.due("HOUSE " + far, Check.house(x, far, 0), HIDDEN);
            s.due("what " + far, Check.house(x, 0, far), HIDDEN);
            s.due("both " + far, Check.house(x, far, far), HIDDEN);
        }
        Sentence throwing = Sentence.of(7, "`int house(int house, int what) throws NoSuchElementException`");
        throwing.due("by such ones", thrown(x, 1, 4), 0);
        throwing.due("by no such HOUSE", thrown(x, 2, 4), 1);
        throwing.due("by no such what", thrown(x, 1, 5), 1);
        x.carry(0);
        s.due("there", Check.house(x, 0, 4), 1);
        s.due("not yet", Check.house(x, 1, 4), 0);
        x.carry(1);
        s.due("was there", Check.house(x, 0, 4), 1);
        s.due("is there", Check.house(x, 1, 4), 1);
        x.year();
        s.due("not this year", Check.house(x, 1, 4), 0);
    }

    /** 1, if it throws that very exception and no other one; 0, if it answers. */
    private static int thrown(SaintCarried x, int house, int what) {
        try {
            x.house(house, what);
            return 0;
        } catch (RuntimeException e) {
            return e.getClass() == NoSuchElementException.class ? 1 : 2;
        }
    }

    private static void law() {
        Sentence s = Sentence.of(9, "The LAW that holds (NONE: none). False: no such one.");
        SaintCarried x = Check.town("hx1g8;h;b");
        s.due("NONE, without LAWS", x.law(NONE), true);
        s.due("0, without LAWS", x.law(0), false);
        Check.feed(x, "y:7");
        x.text(1);
        s.due("none holds yet", x.count(4), NONE);
        s.due("by GRIEVANCE still", x.stands(0), 5);
        s.due("the last", x.law(0), true);
        s.due("it holds", x.stands(0), 7);
        s.due("behind the last", x.law(1), false);
        s.due("ahead of NONE", x.law(-2), false);
        for (int far : FAR) {
            s.due("LAW " + far, x.law(far), false);
        }
        s.due("it holds still", x.count(4), 0);
        s.due("none again", x.law(NONE), true);
        s.due("none holds", x.stands(0), 5);
    }

    private static void steps() {
        Sentence none = Sentence.of(10, "(one NONE: from where he is now)");
        SaintCarried x = Check.town("hx9y9;h;hx9;b");
        none.due("from the NICHE, the farthest", x.steps(NONE, 0), 18);
        none.due("from the NICHE, the nearest", x.steps(NONE, 1), 0);
        x.carry(2);
        none.due("from there", x.steps(NONE, 0), 9);
        none.due("to there", x.steps(NONE, 2), 0);
        Sentence apart = Sentence.of(10, "STEPS between two places: how far x and y are apart, together.");
        SaintCarried wide = Check.town("hx9y1;hx1y9;hx9y9;h;b");
        apart.due("x less, y more", wide.steps(0, 1), 16);
        apart.due("x more, y less", wide.steps(1, 0), 16);
        apart.due("x alone", wide.steps(1, 2), 8);
        apart.due("y alone", wide.steps(2, 0), 8);
        apart.due("the farthest", wide.steps(3, 2), 18);
        apart.due("none", wide.steps(3, 3), 0);
        Sentence such = Sentence.of(10, "NONE: no such ones.");
        such.due("the last to the first", x.steps(2, 0), 9);
        such.due("the first to the last", x.steps(0, 2), 9);
        such.due("one to itself", x.steps(1, 1), 0);
        such.due("one behind the last", x.steps(3, 0), NONE);
        such.due("other behind the last", x.steps(0, 3), NONE);
        such.due("one below NONE", x.steps(-2, 0), NONE);
        such.due("other NONE", x.steps(0, NONE), NONE);
        such.due("both NONE", x.steps(NONE, NONE), NONE);
        such.due("no TOWN", new SaintCarried().steps(NONE, 0), NONE);
        for (int far : FAR) {
            such.due("one " + far, x.steps(far, 0), NONE);
            such.due("other " + far, x.steps(0, far), NONE);
        }
    }

    private static void numbers() {
        Sentence s = Sentence.of(11, "Behind each sign numbers are within -1,000,000 .. 1,000,000");
        s.worth("y:1000*1000-9999*100-50", 50);
        s.worth("y:1000*1000-1-9999*100-50", 49);
        s.worth("y:1000*1000+1-9999*100-50", 50);
        s.worth("y:1001*1000-9999*100-50", 50);
        s.worth("y:9999*100+99-9999*100-50", 49);
        s.worth("y:9999*100+100-9999*100-50", 50);
        s.worth("y:9999*100+101-9999*100-50", 50);
        s.worth("y:0-1000*1000+9999*100+150", 50);
        s.worth("y:1-1000*1000+9999*100+150", 51);
        s.worth("y:0-1000*1000-1+9999*100+150", 50);
        s.worth("y:[0-1001]*1000+9999*100+150", 50);
        s.worth("y:[0-1000]*1000+9999*100+150", 50);
        s.worth("y:9999*9999/9999-50", 50);
        s.worth("y:9999*9999*9999*9999/9999-50", 50);
        s.worth("y:[0-9999]*9999*9999*9999+9999*100+150", 50);
        s.worth("y:1000*1000+1=1000*1000?1;y:2", 1);
        s.worth("y:1000*1000-1=1000*1000?1;y:2", 2);
        s.worth("y:1000*1001>1000*1000?1;y:2", 2);
        s.worth("y:1000*1000>9999*100+99?1;y:2", 1);
        s.worth("y:[0-1000]*1001<0-1000*1000?1;y:2", 2);
        s.worth("y:0-1000*1000<1-1000*1000?1;y:2", 1);
    }

    private static void division() {
        Sentence s = Sentence.of(11, "/ cuts towards 0, by 0 gives 0.");
        s.worth("y:50+7/4", 51);
        s.worth("y:50+8/4", 52);
        s.worth("y:50+3/4", 50);
        s.worth("y:50+[0-7]/4", 49);
        s.worth("y:50+[0-8]/4", 48);
        s.worth("y:50+[0-3]/4", 50);
        s.worth("y:50+7/[0-4]", 49);
        s.worth("y:50+[0-7]/[0-4]", 51);
        s.worth("y:50+7/0", 50);
        s.worth("y:50+0/0", 50);
        s.worth("y:50+[0-7]/[t-3]", 50);
        s.worth("y:7/[g-8]*9+3", 3);
        s.worth("y:7/1", 7);
        s.worth("y:50+7/[0-1]", 43);
        s.worth("y:1000*1000/[0-1]+9999*100+150", 50);
        s.worth("y:[0-1000*1000]/[0-1]-9999*100-50", 50);
    }

    private static void worth() {
        Sentence s = Sentence.of(11, "WORTH: the SUM of the first CLAUSE whose CONDITION holds (or has none), 0 without.");
        s.worth("y:1;y:2", 1);
        s.worth("y:g=8?1;y:g=8?2;y:3", 1);
        s.worth("y:g=7?1;y:g=8?2;y:3", 2);
        s.worth("y:g=7?1;y:g=9?2;y:3", 3);
        s.worth("y:g=7?1;y:3;y:g=8?2", 3);
        s.worth("y:g=7?1", 0);
        s.worth("y:g=7?1;y:t=4?2", 0);
        s.worth("y:g=8?0;y:2", 0);
    }

    private static void stands() {
        Sentence held = Sentence.of(11, "WORTH by the LAW that holds, held within 0 .. 60");
        held.worth("y:59", 59);
        held.worth("y:60", 60);
        held.worth("y:61", 60);
        held.worth("y:1000*1000", 60);
        held.worth("y:1", 1);
        held.worth("y:0", 0);
        held.worth("y:0-1", 0);
        held.worth("y:0-1000*1000", 0);
        SaintCarried most = Check.town("st99;hx3g30;h;b", "y:61");
        held.due("EASED", most.carry(0), 30);
        held.due("TIME", most.count(6), 63);
        held.due("STOOD", most.log(0, 1), 60);
        SaintCarried least = Check.town("st99;hx3g30;h;b", "y:0-9");
        held.due("EASED", least.carry(0), 0);
        held.due("TIME", least.count(6), 3);
        held.due("STOOD", least.log(0, 1), 0);
        Sentence can = Sentence.of(11, "(whether it can be or not)");
        SaintCarried x = Check.town("st9;hx1g8;hx9g3;hx9y9g4;bs9", "y:d+5");
        can.due("too late", x.stands(1), 14);
        can.due("too late, too TIRED", x.stands(2), 23);
        x.carry(0);
        can.due("where he is", x.stands(0), 5);
        x.year();
        x.carry(0);
        can.due("too late", x.stands(1), 13);
        Sentence none = Sentence.of(11, "NONE: no such HOUSE.");
        none.due("the last", x.stands(2), 22);
        none.due("behind the last", x.stands(3), NONE);
        none.due("HOUSE -1", x.stands(-1), NONE);
        none.due("no TOWN", new SaintCarried().stands(0), NONE);
        for (int far : FAR) {
            none.due("HOUSE " + far, x.stands(far), NONE);
        }
    }

    private static void withoutLaw() {
        Sentence s = Sentence.of(11, "(none at first: GRIEVANCE by 2, cut, and 1; THANKFUL ones: 1)");
        for (int g = 0; g <= 30; g++) {
            SaintCarried x = Check.town("hx1g" + g + ";hx2q1g" + g + ";b");
            s.due("GRIEVANCE " + g, x.stands(0), g / 2 + 1);
            s.due("THANKFUL, GRIEVANCE " + g, x.stands(1), 1);
        }
    }

    private static void letters() {
        Sentence s = Sentence.of(11, "letters: g GRIEVANCE, q whether THANKFUL (1, 0), t the TIME as he comes, n how many DOORS he was at this year, d STEPS to it, y the YEAR.");
        SaintCarried g = Check.town("hx1g0;hx2g30;b", "y:g");
        s.due("g 0", g.stands(0), 0);
        s.due("g 30", g.stands(1), 30);
        g.gift(1, 9);
        s.due("g now", g.stands(1), 21);
        SaintCarried q = Check.town("hx1q0;hx2q1;b", "y:q*9");
        s.due("q 0", q.stands(0), 0);
        s.due("q 1", q.stands(1), 9);
        SaintCarried t = Check.town("hx1;hx3;hx9y9;b", "y:t");
        s.due("t from the NICHE", t.stands(1), 3);
        t.carry(0);
        s.due("t behind a DOOR", t.stands(1), 4);
        t.rest();
        s.due("t behind a REST", t.stands(1), 9);
        t.year();
        s.due("t another YEAR", t.stands(1), 3);
        SaintCarried n = Check.town(SEVEN, "y:n");
        for (int i = 0; i < 7; i++) {
            s.due("n " + i, n.stands(6), i);
            n.carry(i);
        }
        s.due("n 7", n.stands(6), 7);
        n.year();
        s.due("n 0 again", n.stands(6), 0);
        SaintCarried d = Check.town("h;hx9y9;hx4y7;b", "y:d");
        s.due("d 0", d.stands(0), 0);
        s.due("d 18", d.stands(1), 18);
        d.carry(2);
        s.due("d from there", d.stands(1), 7);
        s.due("d where he is", d.stands(2), 0);
        SaintCarried y = Check.town("hx1;hx2;b", "y:y-939");
        y.faith(0);
        s.due("y 0", y.stands(0), 0);
        for (int i = 0; i < 16; i++) {
            y.decades(60, 1);
        }
        s.due("y 960", y.stands(0), 21);
        y.decades(39, 1);
        s.due("y 999", y.stands(0), 60);
    }

    // ---- 12: carried ----

    private static void niche() {
        Sentence s = Sentence.of(10, "He is in his NICHE at first (x 0, y 0; no HOUSE).");
        SaintCarried x = Check.town("h;hx4y3;b", "y:0");
        s.due("no HOUSE", x.count(7), NONE);
        s.due("to x 0, y 0", x.steps(NONE, 0), 0);
        s.due("to x 4, y 3", x.steps(NONE, 1), 7);
        s.due("carried to a HOUSE at x 0, y 0", x.carry(0), 0);
        s.due("there", x.count(7), 0);
        s.due("one DOOR", x.count(8), 1);
        s.due("no STEPS", x.count(9), 0);
        s.due("carried on", x.carry(1), 0);
        s.due("STEPS", x.count(9), 7);
    }

    private static void eased() {
        Sentence s = Sentence.of(12, "EASED there: as much of GRIEVANCE as he STANDS; of THANKFUL ones nothing.");
        int[] grievances = {0, 1, 4, 5, 6, 30};
        for (int g : grievances) {
            for (int stays : new int[] {0, 1, 5, 60}) {
                SaintCarried x = Check.town("st99;hx1g" + g + ";hy1q1g" + g + ";b", "y:" + stays);
                int eased = Math.min(g, stays);
                String what = "GRIEVANCE " + g + ", STANDS " + stays;
                s.due(what, x.carry(0), eased);
                s.due(what + ": then", Check.house(x, 0, 2), g - eased);
                s.due(what + ": LOG", x.log(0, 2), eased);
                x.year();
                s.due(what + ": in all", x.count(10), eased);
                s.due(what + ", THANKFUL", x.carry(1), 0);
                s.due(what + ", THANKFUL: then", Check.house(x, 1, 2), g);
                s.due(what + ", THANKFUL: LOG", x.log(0, 2), 0);
                s.due(what + ", THANKFUL: STOOD", x.log(0, 1), stays);
                s.due(what + ", THANKFUL: in all", x.count(10), eased);
            }
        }
    }

    private static void oncePerYear() {
        Sentence s = Sentence.of(12, "He is CARRIED to a HOUSE (another one than where he is; once a year): TIME goes by as many as STEPS, then he STANDS (TIME, too); GRIEVANCE is less by what is EASED; BEARERS are TIRED by as much as STEPS.");
        SaintCarried x = Check.town("hx2g9;hx5g4;b");
        s.due("the first", x.carry(0), 5);
        s.due("TIME", x.count(6), 7);
        s.due("TIRED", x.count(9), 2);
        s.due("where he is", x.carry(0), NONE);
        s.due("another one", x.carry(1), 3);
        s.due("TIME", x.count(6), 13);
        s.due("TIRED", x.count(9), 5);
        s.due("once", x.carry(0), NONE);
        s.due("where he is", x.carry(1), NONE);
        s.due("was there, three times", x.status(2), 3);
        s.due("DOORS", x.count(8), 2);
        s.due("another YEAR", x.year(), 1);
        s.due("where he was at last", x.carry(1), 2);
        s.due("where he was first", x.carry(0), 4);
        s.due("once more", x.carry(1), NONE);
        SaintCarried all = Check.town(SEVEN, "y:1");
        for (int house = 6; house >= 0; house--) {
            s.due("all seven", all.carry(house), 1);
        }
        s.due("all were", all.most(6), 127);
        for (int house = 0; house < 7; house++) {
            s.due("none of the seven", all.carry(house), NONE);
        }
    }

    private static void timeThereIs() {
        Sentence s = Sentence.of(12, "It can't be, if TIME would be more than there is, or BEARERS more TIRED than all their STRENGTH together.");
        s.due("STEPS to the full", Check.town("st9;hx9;hx8;b", "y:0").carry(0), 0);
        s.due("STEPS, one more", Check.town("st8;hx9;hx8;b", "y:0").carry(0), NONE);
        s.due("STANDS to the full", Check.town("st20;hx9;hx8;b", "y:11").carry(0), 5);
        s.due("STANDS, one more", Check.town("st20;hx9;hx8;b", "y:12").carry(0), NONE);
        s.due("no STEPS, to the full", Check.town("st1;h;hx8;b", "y:1").carry(0), 1);
        s.due("no STEPS, one more", Check.town("st1;h;hx8;b", "y:2").carry(0), NONE);
        s.due("of 99", Check.town("st99;hx9y9;hx8;b;b", "y:t*0+60").carry(0), 5);
        for (int there = 19; there <= 21; there++) {
            SaintCarried x = Check.town("st" + there + ";hx2;hx9g2;b", "y:6-n*1");
            x.carry(0);
            s.due("TIME behind the first", x.count(6), 8);
            s.due("8 and 7 and 5 of " + there, x.carry(1), there >= 20 ? 2 : NONE);
            s.due("TIME then", x.count(6), there >= 20 ? 20 : 8);
            s.due("no TIME", x.status(4), there >= 20 ? 0 : 1);
            s.due("LEFT", x.most(4), there - x.count(6));
        }
    }

    private static void strength() {
        Sentence s = Sentence.of(12, "It can't be, if TIME would be more than there is, or BEARERS more TIRED than all their STRENGTH together.");
        s.due("to the full", Check.town("hx9;hx8;bs9").carry(0), 3);
        s.due("one more", Check.town("hx9;hx8;bs8").carry(0), NONE);
        s.due("together to the full", Check.town("hx9;hx8;bs4;bs5").carry(0), 3);
        s.due("together one more", Check.town("hx9;hx8;bs4;bs4").carry(0), NONE);
        s.due("of five", Check.town("hx5;hx8;bs1;bs1;bs1;bs1;bs1").carry(0), 3);
        s.due("of five, one more", Check.town("hx6;hx8;bs1;bs1;bs1;bs1;bs1").carry(0), NONE);
        for (int strong = 8; strong <= 10; strong++) {
            SaintCarried x = Check.town("hx5;hx9;bs" + strong);
            x.carry(0);
            s.due("5 and 4 of " + strong, x.carry(1), strong >= 9 ? 3 : NONE);
            s.due("TIRED then", x.count(9), strong >= 9 ? 9 : 5);
            s.due("too TIRED", x.status(4), strong >= 9 ? 0 : 1);
            s.due("FRESH", x.most(5), strong - x.count(9));
        }
        SaintCarried rested = Check.town("hx5;hx9;bs8");
        rested.carry(0);
        rested.rest();
        s.due("behind a REST", rested.carry(1), 3);
        s.due("TIRED then", rested.count(9), 4);
    }

    private static void carryRefused() {
        Sentence s = Sentence.of(12, "NONE: no such HOUSE (STATUS 0), he is there, was there (2), no TIME, too TIRED (4).");
        SaintCarried x = Check.town("st30;hx4;hx6;hx9y9;bs6");
        s.due("behind the last", x.carry(3), NONE);
        s.due("HOUSE -1", x.carry(-1), NONE);
        for (int far : FAR) {
            s.due("HOUSE " + far, x.carry(far), NONE);
        }
        statusIs(s, x, 2 + FAR.length, 0, 0, 0, 0);
        x.carry(2);
        statusIs(s, x, 2 + FAR.length, 0, 0, 0, 1);
        x.carry(0);
        x.carry(0);
        statusIs(s, x, 2 + FAR.length, 0, 1, 0, 1);
        x.carry(1);
        s.due("was there, too TIRED", x.carry(0), NONE);
        statusIs(s, x, 2 + FAR.length, 0, 2, 0, 1);
        SaintCarried late = Check.town("st9;hx4;hx6;b", "y:2");
        late.carry(0);
        s.due("he is there, no TIME", late.carry(0), NONE);
        statusIs(s, late, 0, 0, 1, 0, 0);
        late.carry(1);
        statusIs(s, late, 0, 0, 1, 0, 1);
        SaintCarried bare = new SaintCarried();
        s.due("no TOWN", bare.carry(0), NONE);
        s.due("no TOWN, NONE", bare.carry(NONE), NONE);
        statusIs(s, bare, 2, 0, 0, 0, 0);
    }

    private static void statusIs(Sentence s, SaintCarried x, int... want) {
        for (int what = 0; what < want.length; what++) {
            s.due("STATUS " + what, x.status(what), want[what]);
        }
    }

    // ---- 13 to 16: by hand ----

    /** TIRED as told, TIME as much. */
    private static SaintCarried tired(int tired, int there) {
        SaintCarried x = Check.town("st" + there + ";hx" + Math.min(9, tired) + "y" + (tired - Math.min(9, tired)) + ";hx9y9;bs40", "y:0");
        x.carry(0);
        return x;
    }

    private static void rest() {
        Sentence s = Sentence.of(13, "a REST (TIME 5 more, TIRED 10 less, 0 at least; not, if TIME would be more than there is or nobody is TIRED)");
        int[] much = {1, 5, 9, 10, 11, 12, 17};
        for (int tired : much) {
            SaintCarried x = tired(tired, 60);
            s.due("TIRED " + tired, x.rest(), Math.max(0, tired - 10));
            s.due("TIRED then", x.count(9), Math.max(0, tired - 10));
            s.due("TIME then", x.count(6), tired + 5);
            s.due("one more ACT", x.count(15), 2);
            s.due("another REST", x.rest(), tired > 10 ? 0 : NONE);
            s.due("TIRED then", x.count(9), 0);
        }
        s.due("TIME to the full", tired(9, 14).rest(), 0);
        s.due("one more", tired(9, 13).rest(), NONE);
        s.due("the third to the full of 99", restedThrice(6), 99);
        s.due("the third one more", restedThrice(7), 95);
        s.due("nobody", tired(0, 60).rest(), NONE);
    }

    /** 18 STEPS, 60 long, so many STEPS more and three RESTS. */
    private static int restedThrice(int steps) {
        SaintCarried x = Check.town("st99;hx9y9;hx9y" + (9 - steps) + ";b;b;b;b", "y:60-n*60");
        x.carry(0);
        x.carry(1);
        x.rest();
        x.rest();
        x.rest();
        return x.count(6);
    }

    private static void restRefused() {
        Sentence s = Sentence.of(13, "NONE: no TOWN (STATUS 0), nobody is TIRED (2), no TIME (4).");
        SaintCarried bare = new SaintCarried();
        s.due("no TOWN", bare.rest(), NONE);
        statusIs(s, bare, 1, 0, 0, 0, 0);
        SaintCarried x = Check.town("st4;h;hx4;b", "y:0");
        s.due("nobody, in the NICHE", x.rest(), NONE);
        statusIs(s, x, 0, 0, 1, 0, 0);
        x.carry(0);
        s.due("nobody is, no TIME", x.rest(), NONE);
        statusIs(s, x, 0, 0, 2, 0, 0);
        x.carry(1);
        s.due("no TIME", x.rest(), NONE);
        statusIs(s, x, 0, 0, 2, 0, 1);
        s.due("TIRED still", x.count(9), 4);
    }

    private static void gift() {
        Sentence s = Sentence.of(14, "a GIFT of n (1 .. 30) COINS to a HOUSE (GRIEVANCE less by as much; not more than there is of it)");
        SaintCarried x = Check.town("sc99;hg30;hx1g30;hx2g9q1;b");
        s.due("of 0", x.gift(0, 0), NONE);
        s.due("of 31", x.gift(0, 31), NONE);
        s.due("of -1", x.gift(0, -1), NONE);
        s.due("of 1", x.gift(0, 1), 29);
        s.due("of 30", x.gift(1, 30), 0);
        s.due("COINS", x.rule(1), 68);
        s.due("one more than there is", x.gift(0, 30), NONE);
        s.due("as much as there is", x.gift(0, 29), 0);
        s.due("of none", x.gift(0, 1), NONE);
        s.due("a THANKFUL one, more", x.gift(2, 10), NONE);
        s.due("a THANKFUL one, all", x.gift(2, 9), 0);
        statusIs(s, x, 0, 6, 0, 0, 0);
        for (int far : FAR) {
            s.due("of " + far, x.gift(0, far), NONE);
        }
        Sentence none = Sentence.of(14, "NONE: no such HOUSE (STATUS 0), out of bounds, more than its GRIEVANCE (1), too few (3).");
        SaintCarried few = Check.town("sc5;hg6;hx1g4;b");
        none.due("one COIN too few", few.gift(0, 6), NONE);
        statusIs(none, few, 0, 0, 0, 1, 0);
        none.due("more than its GRIEVANCE", few.gift(1, 5), NONE);
        statusIs(none, few, 0, 1, 0, 1, 0);
        none.due("more than its GRIEVANCE, too few", few.gift(1, 6), NONE);
        none.due("out of bounds, too few", few.gift(0, 31), NONE);
        statusIs(none, few, 0, 3, 0, 1, 0);
        none.due("behind the last", few.gift(2, 1), NONE);
        none.due("HOUSE -1, out of bounds", few.gift(-1, 0), NONE);
        none.due("HOUSE 2, out of bounds, too few", few.gift(2, 31), NONE);
        statusIs(none, few, 3, 3, 0, 1, 0);
        none.due("all COINS", few.gift(0, 5), 1);
        none.due("none is left", few.gift(0, 1), NONE);
        statusIs(none, few, 3, 3, 0, 2, 0);
        none.due("no TOWN", new SaintCarried().gift(0, 1), NONE);
    }

    private static void give() {
        Sentence s = Sentence.of(15, "COINS are given (1 .. 50; 999 at most)");
        SaintCarried x = Check.town("sc98;h;hx1;b");
        s.due("0", x.give(0), NONE);
        s.due("51", x.give(51), NONE);
        s.due("-1", x.give(-1), NONE);
        s.due("1", x.give(1), 99);
        for (int i = 1; i <= 17; i++) {
            s.due("50", x.give(50), 99 + 50 * i);
        }
        s.due("49 to 998", x.give(49), 998);
        s.due("2, one above", x.give(2), NONE);
        s.due("50", x.give(50), NONE);
        s.due("1 to 999", x.give(1), 999);
        s.due("1 above", x.give(1), NONE);
        s.due("COINS", x.rule(1), 999);
        x.undo();
        x.undo();
        s.due("50 to 999", x.give(50), 999);
        Sentence none = Sentence.of(15, "COINS then. NONE: no TOWN (STATUS 0), out of bounds, above 999 (1).");
        statusIs(none, x, 0, 6, 0, 0, 0);
        for (int far : FAR) {
            none.due(far + "", x.give(far), NONE);
        }
        SaintCarried bare = new SaintCarried();
        none.due("no TOWN", bare.give(1), NONE);
        none.due("no TOWN, out of bounds", bare.give(51), NONE);
        statusIs(none, bare, 2, 0, 0, 0, 0);
    }

    private static void year() {
        Sentence s = Sentence.of(16, "he is in his NICHE again, TIME, TIRED and DOORS none, GRIEVANCES of all that are not THANKFUL grow (30 at most)");
        SaintCarried x = Check.town("st99e9;hx1g20;hx2g21;hx3g22;hx4g30;hx5g30q1;hx6g0q1;hx7g0;b", "y:0");
        x.carry(0);
        x.carry(6);
        s.due("the YEAR", x.year(), 1);
        s.due("in his NICHE", x.count(7), NONE);
        s.due("STEPS BACK", x.most(7), 0);
        s.due("TIME", x.count(6), 0);
        s.due("TIRED", x.count(9), 0);
        s.due("DOORS", x.count(8), 0);
        s.due("WAS", x.most(6), 0);
        int[] want = {29, 30, 30, 30, 30, 0, 9};
        for (int house = 0; house < 7; house++) {
            s.due("HOUSE " + house, Check.house(x, house, 2), want[house]);
        }
        s.due("another one", x.year(), 2);
        s.due("30 at most", Check.house(x, 0, 2), 30);
        s.due("THANKFUL, none", Check.house(x, 5, 2), 0);
        SaintCarried still = Check.town("se0;hg29;hx1g0;b");
        still.year();
        s.due("by 0", Check.house(still, 0, 2), 29);
        s.due("by 0, of none", Check.house(still, 1, 2), 0);
    }

    private static void lastYear() {
        Sentence s = Sentence.of(16, "a YEAR (0 at first; 999 at most: none goes by then)");
        SaintCarried x = Check.town("se0;h;hx1;b", "y:1");
        s.due("at first", x.count(5), 0);
        x.faith(0);
        for (int i = 0; i < 16; i++) {
            x.decades(60, i);
        }
        x.decades(38, 3);
        s.due("the last but one", x.count(5), 998);
        x.carry(1);
        s.due("the last", x.year(), 999);
        x.carry(1);
        s.due("none behind it", x.year(), NONE);
        s.due("none went by", x.count(5), 999);
        s.due("there still", x.count(7), 1);
        s.due("was there still", x.carry(1), NONE);
        x.undo();
        x.undo();
        s.due("UNDONE", x.count(5), 998);
        s.due("the last once more", x.year(), 999);
        Sentence none = Sentence.of(16, "A YEAR: the YEAR. NONE: no TOWN (STATUS 0), beyond 999 (4).");
        statusIs(none, x, 0, 0, 1, 0, 1);
        none.due("beyond", x.year(), NONE);
        statusIs(none, x, 0, 0, 1, 0, 2);
        SaintCarried bare = new SaintCarried();
        none.due("no TOWN", bare.year(), NONE);
        statusIs(none, bare, 1, 0, 0, 0, 0);
    }

    // ---- 19 to 21: what was ----

    private static void status() {
        Sentence s = Sentence.of(19, "STATUS. NONE: no such what.");
        SaintCarried x = Check.town("sc0;hg9;hx9y9;bs9");
        statusIs(s, x, 0, 0, 0, 0, 0, NONE);
        s.due("what -1", x.status(-1), NONE);
        for (int far : FAR) {
            s.due("what " + far, x.status(far), NONE);
        }
        for (int i = 0; i < 5; i++) {
            x.carry(2);
        }
        for (int i = 0; i < 4; i++) {
            x.give(0);
        }
        for (int i = 0; i < 3; i++) {
            x.rest();
        }
        x.gift(0, 1);
        x.gift(0, 1);
        x.carry(1);
        statusIs(s, x, 5, 4, 3, 2, 1, NONE);
        Sentence calls = Sentence.of(19, "An object is used for at most 512 calls after it has been made");
        SaintCarried many = Check.town("h;hx1;b");
        for (int i = 0; i < 509; i++) {
            many.carry(2);
        }
        calls.due("the last of 512", many.status(0), 509);
    }

    private static void statusFirst() {
        Sentence s = Sentence.of(19, "STATUS: how many ACTS were refused as there was no such one (0), out of bounds (1), he is there, was there, nobody is TIRED (2), too few COINS (3), no TIME, too TIRED, beyond the last YEAR (4); of several the first; not UNDONE.");
        SaintCarried bare = new SaintCarried();
        bare.carry(-1);
        bare.gift(0, 31);
        bare.give(0);
        bare.rest();
        bare.year();
        statusIs(s, bare, 5, 0, 0, 0, 0);
        SaintCarried x = Check.town("sc1t7;hx2g2;hx4;bs4", "y:0");
        x.gift(0, 31);
        x.gift(2, 31);
        x.gift(0, 2);
        x.carry(0);
        x.carry(1);
        x.carry(0);
        x.rest();
        statusIs(s, x, 1, 1, 1, 1, 1);
        for (int i = 0; i < 3; i++) {
            x.undo();
        }
        statusIs(s, x, 1, 1, 1, 1, 1);
        x.rest();
        statusIs(s, x, 1, 1, 2, 1, 1);
        x.image();
        x.rest();
        x.back();
        statusIs(s, x, 1, 1, 3, 1, 1);
    }

    private static void log() {
        Sentence s = Sentence.of(21, "LOG, the latest (i 0), the one ahead of it (1) ..: 0 HOUSE, 1 STOOD, 2 EASED, 3 TIME. NONE: no such ones.");
        SaintCarried x = Check.town("hx2g9;hx5g4q1;b", "y:7-n*3");
        s.due("none yet", x.log(0, 0), NONE);
        x.carry(0);
        s.due("one", x.log(0, 1), 7);
        s.due("none ahead of it", x.log(1, 1), NONE);
        x.carry(1);
        int[] want = {1, 4, 0, 16, 0, 7, 7, 9};
        for (int i = 0; i < want.length; i++) {
            s.due("i " + i / 4 + ", " + i % 4, x.log(i / 4, i % 4), want[i]);
        }
        s.due("i 2", x.log(2, 0), NONE);
        s.due("i -1", x.log(-1, 0), NONE);
        s.due("what 4", x.log(1, 4), NONE);
        s.due("what -1", x.log(0, -1), NONE);
        for (int far : FAR) {
            s.due("i " + far, x.log(far, 0), NONE);
            s.due("what " + far, x.log(0, far), NONE);
        }
        s.due("no TOWN", new SaintCarried().log(0, 0), NONE);
    }

    private static void logTurns() {
        Sentence s = Sentence.of(21, "LOG of DOORS: the HOUSE, how long he STOOD, EASED, TIME then (the latest 60).");
        for (int doors : new int[] {1, 59, 60, 61, 62, 99, 100, 101, 119, 120, 121, 159, 160, 161, 199, 200, 201, 220}) {
            SaintCarried x = Check.town("hx1g30;hx3;b", "y:y-y/60*60");
            for (int door = 0; door < doors; door++) {
                x.carry(0);
                x.year();
            }
            int kept = Math.min(60, doors);
            s.due(doors + " DOORS: how many", x.count(14), kept);
            s.due(doors + " DOORS: one too many", x.log(kept, 1), NONE);
            for (int i = 0; i < kept; i += i < 2 || i > 56 ? 1 : 11) {
                s.due(doors + " DOORS: i " + i, x.log(i, 1), (doors - 1 - i) % 60);
            }
            s.due(doors + " DOORS: the oldest", x.log(kept - 1, 3), 1 + (doors - kept) % 60);
        }
    }

    private static void undo() {
        Sentence s = Sentence.of(20, "The latest ACT is UNDONE: how many still can be. NONE: none.");
        SaintCarried x = Check.town("se4;hx2g9;hx5g4;b");
        s.due("none yet", x.undo(), NONE);
        s.due("no TOWN", new SaintCarried().undo(), NONE);
        List<List<Long>> were = new ArrayList<>();
        for (int act = 0; act < 7; act++) {
            were.add(State.of(x));
            if (act == 0 || act == 5) {
                x.carry(act / 5);
            } else if (act == 1) {
                x.rest();
            } else if (act == 2) {
                x.gift(1, 2);
            } else if (act == 3) {
                x.give(7);
            } else if (act == 4) {
                x.year();
            } else {
                x.decades(1, 3);
            }
            s.due("ACT " + act + " can be", x.count(15), act + 1);
        }
        for (int act = 6; act >= 0; act--) {
            s.due("ACT " + act, x.undo(), act);
            s.due("as it was ahead of ACT " + act, State.of(x).equals(were.get(act)), true);
        }
        s.due("none more", x.undo(), NONE);
        s.due("none more", x.undo(), NONE);
        s.due("as at first", State.of(x).equals(were.get(0)), true);
    }

    private static void undoMost() {
        Sentence s = Sentence.of(20, "All these are ACTS: the latest 40 can be UNDONE one by one (LOG, too).");
        for (int acts : new int[] {1, 39, 40, 41, 42, 79, 80, 81, 120}) {
            SaintCarried x = Check.town("sc0;h;hx1;b");
            for (int i = 0; i < acts; i++) {
                x.give(1);
            }
            int kept = Math.min(40, acts);
            s.due(acts + " ACTS", x.count(15), kept);
            for (int i = 1; i <= kept; i++) {
                s.due(acts + " ACTS, UNDONE " + i, x.undo(), kept - i);
                s.due(acts + " ACTS: COINS", x.rule(1), acts - i);
            }
            s.due(acts + " ACTS: none more", x.undo(), NONE);
            s.due(acts + " ACTS: COINS stay", x.rule(1), acts - kept);
            s.due(acts + " ACTS: an ACT more", x.give(9), acts - kept + 9);
            s.due(acts + " ACTS: it can be UNDONE", x.undo(), 0);
        }
    }

    /** Seven DOORS, a YEAR, seven DOORS ..: so many ACTS, all that can be UNDONE, some more, and UNDONE again. */
    private static void undoTurns() {
        Sentence s = Sentence.of(20, "(LOG, too)");
        for (int acts : new int[] {37, 40, 61, 69, 70, 100, 115, 130}) {
            SaintCarried x = Check.town(SEVEN, "y:n");
            List<List<Long>> were = new ArrayList<>();
            int done = act(x, 0, acts, were);
            for (int i = 0; i < 40 && i < acts; i++) {
                done--;
                x.undo();
                s.due(acts + " ACTS, UNDONE to " + done, seen(x).equals(were.get(done)), true);
            }
            done = act(x, done, 11, were);
            for (int i = 0; i < 11; i++) {
                done--;
                x.undo();
                s.due(acts + " ACTS, more of them UNDONE to " + done, seen(x).equals(were.get(done)), true);
            }
            s.due(acts + " ACTS: none more", x.undo(), NONE);
        }
    }

    private static int act(SaintCarried x, int from, int more, List<List<Long>> were) {
        while (were.size() > from) {
            were.remove(were.size() - 1);
        }
        for (int act = from; act < from + more; act++) {
            were.add(seen(x));
            if (act % 8 == 7) {
                x.year();
            } else {
                x.carry(act % 8);
            }
        }
        return from + more;
    }

    private static List<Long> seen(SaintCarried x) {
        List<Long> all = new ArrayList<>();
        all.add((long) x.log(0, 0));
        all.add((long) x.log(59, 3));
        all.add((long) x.most(6));
        return all;
    }
}
