import java.math.BigInteger;
import java.util.List;

/** Promises 17, 18, 41 to 43 and Terms 4, sentence by sentence: draws, images, counts. */
final class BoundsOfYears {
    private static final int NONE = SaintCarried.NONE;
    private static final int HIDDEN = SaintCarried.HIDDEN;
    private static final int LEAST = Integer.MIN_VALUE;
    private static final int MOST = Integer.MAX_VALUE;
    private static final int[] FAR = {LEAST, -1000000, -2, MOST - 1, MOST};
    private static final String SEVEN = "hx1g9;hx2g9;hx3g9;hx4g9;hx5g9;hx6g9;hx7g9;b;b;st99";

    private BoundsOfYears() {
    }

    /** The draws by numbers without any bound, each cut to 64 bits by hand. */
    private static final class Draws {
        private static final BigInteger ROUND = BigInteger.ONE.shiftLeft(64);
        private BigInteger x;

        Draws(long seed) {
            x = BigInteger.valueOf(seed).mod(ROUND);
        }

        int draw(int j) {
            x = x.multiply(new BigInteger("6364136223846793005")).add(new BigInteger("1442695040888963407")).mod(ROUND);
            return x.shiftRight(33).mod(BigInteger.valueOf(j)).intValue();
        }
    }

    static void runAll() {
        faith();
        decadesMany();
        drawBelowFaith();
        drawHouses();
        drawnSeeds();
        nothingCame();
        eachAnAct();
        lastYear();
        image();
        imageKeeps();
        imageOfLog();
        imageAndActs();
        back();
        countLeast();
        countMost();
    }

    // ---- 17 and 18 ----

    private static void faith() {
        Sentence s = Sentence.of(17, "FAITH. False: out of bounds, it is so.");
        SaintCarried x = new SaintCarried();
        s.due("7 at first", x.faith(7), false);
        s.due("10", x.faith(10), false);
        s.due("-1", x.faith(-1), false);
        for (int far : FAR) {
            s.due("" + far, x.faith(far), false);
        }
        s.due("it stays", x.count(11), 7);
        s.due("9", x.faith(9), true);
        s.due("9, it is so", x.faith(9), false);
        s.due("0", x.faith(0), true);
        s.due("0, it is so", x.faith(0), false);
        for (int v = 1; v <= 9; v++) {
            s.due("" + v, x.faith(v), true);
            s.due("it is so", x.count(11), v);
        }
        Sentence first = Sentence.of(17, "FAITH (0 .. 9; 7 at first)");
        first.due("at first", new SaintCarried().count(11), 7);
        first.due("not by a TOWN", Check.town("h;hx1;b").count(11), 7);
        first.due("not by a TOWN", Check.town("h;hx1;b").faith(7), false);
    }

    private static void decadesMany() {
        Sentence s = Sentence.of(18, "DECADES by a seed: n (1 .. 60) ACTS");
        SaintCarried x = Check.town("se1;hg0;hx1g0;b");
        x.faith(0);
        s.due("n 0", x.decades(0, 5), NONE);
        s.due("n 61", x.decades(61, 5), NONE);
        s.due("n -1", x.decades(-1, 5), NONE);
        for (int far : FAR) {
            s.due("n " + far, x.decades(far, 5), NONE);
        }
        s.due("no YEAR yet", x.count(5), 0);
        s.due("no ACT yet", x.count(15), 0);
        s.due("n 1", x.decades(1, 5), 0);
        s.due("one YEAR", x.count(5), 1);
        s.due("one ACT", x.count(15), 1);
        s.due("n 60", x.decades(60, 5), 0);
        s.due("sixty YEARS", x.count(5), 61);
        s.due("30 at most", Check.house(x, 0, 2), 30);
        Sentence none = Sentence.of(18, "DECADES: how many DOORS he came to by them. NONE: no TOWN, out of bounds.");
        none.due("no TOWN", new SaintCarried().decades(1, 5), NONE);
        none.due("no TOWN, out of bounds", new SaintCarried().decades(0, 5), NONE);
        none.due("none by YEARS", x.decades(9, 5), 0);
        SaintCarried all = Check.town("st99;hx1;hx2;b");
        all.faith(9);
        int doors = all.decades(60, 5);
        none.due("as many as the LOG has", doors, all.count(14));
        none.due("some", doors > 2, true);
    }

    /** A seed by which the first draw of 10 is this. */
    private static long seedOf(int draw) {
        for (long seed = 0; seed < 1000; seed++) {
            if (new Draws(seed).draw(10) == draw) {
                return seed;
            }
        }
        throw new IllegalStateException("no seed");
    }

    private static void drawBelowFaith() {
        Sentence s = Sentence.of(18, "each a draw of 10 below FAITH (0 .. 9; 7 at first): a draw of how many HOUSES there are: he is CARRIED there, if it can be; else a YEAR goes by, if it can.");
        for (int faith = 0; faith <= 9; faith++) {
            for (int draw = 0; draw <= 9; draw++) {
                SaintCarried x = Check.town(SEVEN);
                x.faith(faith);
                long seed = seedOf(draw);
                Draws draws = new Draws(seed);
                draws.draw(10);
                boolean isCarried = draw < faith;
                String what = "a draw of " + draw + ", FAITH " + faith;
                s.due(what + ": DOORS", x.decades(1, seed), isCarried ? 1 : 0);
                s.due(what + ": where", x.count(7), isCarried ? draws.draw(7) : NONE);
                s.due(what + ": YEARS", x.count(5), isCarried ? 0 : 1);
            }
        }
    }

    private static void drawHouses() {
        Sentence s = Sentence.of(18, "a draw of how many HOUSES there are");
        String[] towns = {"hx1;hx2;b;b;b", "hx3;", "hx4;", "hx5;", "hx6;", "hx7;"};
        String town = "";
        for (int i = 0; i < towns.length; i++) {
            town = i == 0 ? towns[0] : towns[i] + town;
            int houses = i + 2;
            boolean[] drawn = new boolean[houses];
            for (long seed = 0; seed < 60; seed++) {
                SaintCarried x = Check.town(town);
                x.faith(9);
                Draws draws = new Draws(seed);
                if (draws.draw(10) < 9) {
                    int house = draws.draw(houses);
                    x.decades(1, seed);
                    s.due("of " + houses + ", seed " + seed, x.count(7), house);
                    drawn[house] = true;
                }
            }
            s.due("the first of " + houses, drawn[0], true);
            s.due("the last of " + houses, drawn[houses - 1], true);
        }
    }

    private static void drawnSeeds() {
        Sentence s = Sentence.of(18, "x, at first the seed, becomes x times 6364136223846793005 and 1442695040888963407 (64 bits, going round); a draw of j: (x shifted right by 33, without sign) modulo j.");
        long[] seeds = {0, 1, -1, 2, 6364136223846793005L, -1442695040888963407L, Long.MAX_VALUE, Long.MIN_VALUE,
            Long.MAX_VALUE - 1, Long.MIN_VALUE + 1, Integer.MAX_VALUE, Integer.MIN_VALUE, 1L << 33, -(1L << 33), 1L << 32};
        for (long seed : seeds) {
            SaintCarried x = Check.town(SEVEN);
            SaintCarried twin = Check.town(SEVEN);
            Draws draws = new Draws(seed);
            int doors = 0;
            for (int act = 0; act < 39; act++) {
                if (draws.draw(10) < 7) {
                    doors += twin.carry(draws.draw(7)) == NONE ? 0 : 1;
                } else {
                    twin.year();
                }
            }
            s.due("seed " + seed + ": DOORS", x.decades(39, seed), doors);
            for (int what = 5; what <= 10; what++) {
                s.due("seed " + seed + ": count " + what, x.count(what), twin.count(what));
            }
            for (int house = 0; house < 7; house++) {
                s.due("seed " + seed + ": HOUSE " + house, Check.house(x, house, 2), Check.house(twin, house, 2));
            }
            for (int i = 0; i < doors; i++) {
                s.due("seed " + seed + ": LOG " + i, x.log(i, 0) * 100 + x.log(i, 3), twin.log(i, 0) * 100 + twin.log(i, 3));
            }
            SaintCarried again = Check.town(SEVEN);
            again.decades(20, 99);
            SaintCarried other = Check.town(SEVEN);
            other.decades(20, 99);
            again.decades(1, 7);
            other.decades(1, 7);
            s.due("from the seed on each time", State.now(again).equals(State.now(other)), true);
        }
    }

    private static void nothingCame() {
        Sentence s = Sentence.of(18, "Each is one ACT (also if nothing came of it). No STATUS.");
        // Nobody can come to any HOUSE: no TIME, or too weak.
        for (String town : new String[] {"st1;hx9;hx8;b", "hx9;hx8;bs1"}) {
            SaintCarried x = Check.town(town);
            x.faith(9);
            Draws draws = new Draws(3);
            int years = 0;
            for (int act = 0; act < 30; act++) {
                if (draws.draw(10) < 9) {
                    draws.draw(2);
                } else {
                    years++;
                }
            }
            s.due("no DOORS", x.decades(30, 3), 0);
            s.due("each is one", x.count(15), 30);
            s.due("YEARS", x.count(5), years);
            for (int what = 0; what <= 4; what++) {
                s.due("STATUS " + what, x.status(what), 0);
            }
        }
        // Of two HOUSES he is at one, was at the other.
        SaintCarried x = Check.town("st99;hx1g0;hx2g0;b");
        x.faith(9);
        x.carry(0);
        x.carry(1);
        long seed = seedOf(0);
        List<Long> ahead = State.now(x);
        s.due("he is there, was there", x.decades(1, seed), 0);
        s.due("one ACT", x.count(15), 3);
        s.due("STATUS 2", x.status(2), 0);
        s.due("UNDONE", x.undo(), 2);
        s.due("as it was", State.now(x).equals(ahead), true);
    }

    private static void eachAnAct() {
        Sentence s = Sentence.of(18, "Each is one ACT (also if nothing came of it).");
        for (int n : new int[] {1, 2, 39, 40, 41, 60}) {
            SaintCarried x = Check.town(SEVEN);
            x.decades(n, 77);
            int kept = Math.min(40, n);
            s.due(n + " ACTS", x.count(15), kept);
            for (int undone = 1; undone <= kept; undone++) {
                s.due(n + " ACTS, UNDONE " + undone, x.undo(), kept - undone);
                if (undone == 1 || undone == 7 || undone == kept) {
                    SaintCarried twin = Check.town(SEVEN);
                    if (n > undone) {
                        twin.decades(n - undone, 77);
                    }
                    s.due(n + " ACTS, UNDONE " + undone + ": as it was", actsAside(x).equals(actsAside(twin)), true);
                }
            }
            s.due(n + " ACTS: none more", x.undo(), NONE);
        }
    }

    private static List<Long> actsAside(SaintCarried x) {
        List<Long> now = State.now(x);
        now.set(15, 0L);
        return now;
    }

    private static void lastYear() {
        Sentence s = Sentence.of(18, "else a YEAR goes by, if it can");
        SaintCarried x = Check.town("st99;hx1g9;hx2g9;b");
        x.faith(0);
        for (int i = 0; i < 17; i++) {
            x.decades(i == 16 ? 38 : 60, i);
        }
        s.due("the last but one", x.count(5), 998);
        x.carry(0);
        x.decades(1, 5);
        s.due("the last", x.count(5), 999);
        s.due("in his NICHE", x.count(7), NONE);
        x.carry(0);
        int grievance = Check.house(x, 0, 2);
        s.due("none behind it", x.decades(3, 5), 0);
        s.due("the last still", x.count(5), 999);
        s.due("there still", x.count(7), 0);
        s.due("nothing grows", Check.house(x, 0, 2), grievance);
        s.due("no STATUS", x.status(4), 0);
        s.due("three ACTS UNDONE", x.undo() + x.undo() + x.undo(), 39 + 38 + 37);
        s.due("there still", x.count(7), 0);
        x.undo();
        s.due("ahead of the DOOR", x.count(7), NONE);
    }

    // ---- 41 and 42 ----

    private static void image() {
        Sentence s = Sentence.of(41, "An IMAGE (instead of the one ahead): the YEAR. NONE: no TOWN.");
        s.due("no TOWN", new SaintCarried().image(), NONE);
        SaintCarried x = Check.town("hx1g9;hx2g9;b");
        s.due("YEAR 0", x.image(), 0);
        x.carry(0);
        x.year();
        s.due("YEAR 1", x.image(), 1);
        x.carry(0);
        x.year();
        s.due("the one told last", x.back(), 1);
        s.due("nothing of the one ahead", Check.house(x, 0, 2), 6);
        s.due("once more, at the same time", x.image(), 1);
        x.undo();
        s.due("it", x.back(), 1);
        x.faith(0);
        for (int i = 0; i < 17; i++) {
            x.decades(60, i);
        }
        s.due("YEAR 999", x.image(), 999);
        s.due("YEAR 999 comes BACK", x.back(), 999);
    }

    private static void imageKeeps() {
        Sentence s = Sentence.of(42, "An IMAGE keeps GRIEVANCES, COINS, TIME, TIRED, where he is and was, the YEAR, the LOG; what was EASED in all; it comes BACK: they are so again (no ACT can be UNDONE then).");
        SaintCarried x = Check.town("st99;hx1g9;hx2g9;hx3g9;hx4g3q1;b");
        s.due("of a new TOWN", x.image(), 0);
        List<Long> first = actsAside(x);
        x.carry(0);
        x.give(9);
        x.year();
        x.carry(2);
        x.carry(0);
        x.rest();
        x.gift(1, 3);
        List<Long> ahead = actsAside(x);
        s.due("as at first", x.back(), 0);
        s.due("as at first: all", actsAside(x).equals(first), true);
        s.due("no ACT", x.count(15), 0);
        s.due("none can be UNDONE", x.undo(), NONE);
        x.carry(0);
        x.give(9);
        x.year();
        x.carry(2);
        x.carry(0);
        x.rest();
        x.gift(1, 3);
        x.image();
        s.due("an IMAGE is no ACT", x.count(15), 7);
        x.faith(3);
        x.stood(0, 0, 1);
        x.seen(0, 0, true);
        x.carry(1);
        x.gift(0, 1);
        x.give(50);
        x.rest();
        x.year();
        x.decades(40, 3);
        s.due("the YEAR", x.back(), 1);
        List<Long> now = actsAside(x);
        for (int i = 0; i < ahead.size(); i++) {
            boolean isKept = i != 11 && i != 12 && i != 13;
            s.due("told " + i, now.get(i), isKept ? ahead.get(i) : i == 11 ? 3 : 1);
        }
        s.due("no ACT then", x.count(15), 0);
        s.due("none UNDONE then", x.undo(), NONE);
        x.give(1);
        s.due("an ACT behind it", x.undo(), 0);
        s.due("as it was kept", actsAside(x).equals(now), true);
    }

    private static void imageOfLog() {
        Sentence s = Sentence.of(42, "the LOG; what was EASED in all; it comes BACK: they are so again");
        for (int doors : new int[] {0, 1, 59, 60, 61, 100, 101, 120}) {
            SaintCarried x = Check.town("hx1g30;hx3;b", "y:y-y/60*60");
            for (int door = 0; door < doors; door++) {
                x.carry(0);
                x.year();
            }
            x.image();
            int eased = x.count(10);
            x.law(NONE);
            x.faith(9);
            x.decades(60, doors);
            x.decades(60, doors);
            x.decades(60, doors);
            x.back();
            int kept = Math.min(60, doors);
            s.due(doors + " DOORS: how many", x.count(14), kept);
            s.due(doors + " DOORS: EASED", x.count(10), eased);
            for (int i = 0; i < kept; i++) {
                s.due(doors + " DOORS: i " + i, x.log(i, 1), (doors - 1 - i) % 60);
            }
            s.due(doors + " DOORS: none behind", x.log(kept, 1), NONE);
        }
    }

    private static void imageAndActs() {
        Sentence s = Sentence.of(42, "(no ACT can be UNDONE then)");
        SaintCarried x = Check.town("st99;hx1g9;hx2g9;b");
        for (int i = 0; i < 45; i++) {
            x.give(1);
        }
        x.image();
        s.due("an IMAGE leaves the ACTS", x.count(15), 40);
        for (int i = 0; i < 9; i++) {
            x.undo();
        }
        s.due("UNDONE", x.rule(1), 56);
        s.due("BACK to ahead of it", x.back(), 0);
        s.due("COINS", x.rule(1), 65);
        s.due("no ACT", x.count(15), 0);
        s.due("none", x.undo(), NONE);
        for (int i = 0; i < 41; i++) {
            x.give(1);
        }
        for (int i = 39; i >= 0; i--) {
            s.due("forty behind it", x.undo(), i);
        }
        s.due("not ahead of them", x.rule(1), 66);
        s.due("none more", x.undo(), NONE);
    }

    private static void back() {
        Sentence s = Sentence.of(42, "It comes BACK: the YEAR. NONE: no IMAGE of this TOWN.");
        s.due("no TOWN", new SaintCarried().back(), NONE);
        SaintCarried x = Check.town("hx1;hx2;b");
        s.due("none yet", x.back(), NONE);
        x.year();
        x.image();
        x.year();
        Check.feed(x, "h;h;b");
        x.text(0);
        s.due("a TEXT with a FAULT", x.back(), 1);
        x.end(0);
        Check.feed(x, "y:1");
        x.text(1);
        s.due("a LAW", x.back(), 1);
        x.year();
        s.due("once more", x.back(), 1);
        Check.feed(x, "hx1;hx2;b");
        x.text(0);
        s.due("another TOWN", x.back(), NONE);
        s.due("YEAR 0", x.count(5), 0);
        s.due("an IMAGE of it", x.image(), 0);
        x.year();
        s.due("of it", x.back(), 0);
    }

    // ---- 43 ----

    private static void countLeast() {
        Sentence s = Sentence.of(43, "HIDDEN for others.");
        SaintCarried x = new SaintCarried();
        SaintCarried y = Check.town("h;hx1;b");
        for (int what : new int[] {LEAST, -1000000, -2, -1, 16, 17, MOST - 1, MOST}) {
            s.due("no TOWN, " + what, x.count(what), HIDDEN);
            s.due("" + what, y.count(what), HIDDEN);
        }
        s.due("0", y.count(0), 2);
        s.due("15", y.count(15), 0);
    }

    private static void countMost() {
        Sentence s = Sentence.of(43, "0 HOUSES, 1 BEARERS, 2 LAWS, 3 bytes of the TAPE, 4 the LAW that holds (NONE), 5 the YEAR, 6 TIME, 7 where he is (NONE: his NICHE), 8 DOORS this year, 9 TIRED, 10 EASED in all, 11 FAITH, 12 STOOD, 13 SEEN, 14 how long the LOG is, 15 ACTS that can be UNDONE.");
        SaintCarried x = Check.town("st99;hx9y9g30;hx8y9g30;hx9y8g30;hx8y8g30;hx7y9g30;hx9y7g30;hx7y8g30;bs40;bs40;bs40;bs40;bs40", "y:8");
        for (int law = 1; law < 4; law++) {
            Check.feed(x, "y:8");
            x.text(1);
        }
        x.law(3);
        x.faith(0);
        for (int i = 0; i < 16; i++) {
            x.decades(60, i);
        }
        x.faith(9);
        x.decades(30, 3);
        x.faith(0);
        x.decades(60, 3);
        for (int i = 0; i < 10; i++) {
            x.stood(i % 7, i, i);
            x.seen(i % 7, i % 7, false);
        }
        for (int i = 0; i < 12; i++) {
            x.feed(-1, -1, -1, -1, -1);
        }
        for (int house = 0; house < 7; house++) {
            x.carry(house);
        }
        int[] want = {7, 5, 4, 240, 3, 999, 18 + 1 + 2 + 1 + 2 + 4 + 3 + 7 * 8, 6, 7, 31, x.count(10), 0, 10, 10, x.count(14), 40};
        for (int what = 0; what < want.length; what++) {
            s.due("count " + what, x.count(what), want[what]);
        }
        s.due("EASED 8 by each DOOR", x.count(10), 8 * x.count(14));
    }
}
