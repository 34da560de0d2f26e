import java.util.ArrayList;
import java.util.List;

/**
 * "What is refused answers as told and changes nothing but STATUS": of two objects that were told alike one refuses a
 * call; whatever is asked of both then, however they go on, they answer alike, but for the STATUS that was told.
 */
final class BoundsOfRefusals {
    private static final int NONE = SaintCarried.NONE;
    private static final int HIDDEN = SaintCarried.HIDDEN;
    private static final String TOWN = "st60c10e3;hx2y1g8;hx4y1g3;hy5g0;hx5y5g6q1;bs12;bs6";
    private static final String WORDS = "What is refused answers as told and changes nothing but STATUS.";

    private BoundsOfRefusals() {
    }

    private interface Setup {
        SaintCarried made();
    }

    private interface Call {
        long of(SaintCarried x);
    }

    private interface Going {
        void on(SaintCarried x, List<Long> answers);
    }

    private static final Setup BARE = SaintCarried::new;
    private static final Setup TAPED = BoundsOfRefusals::taped;
    private static final Setup FIRST = () -> Check.town(TOWN);
    private static final Setup RICH = BoundsOfRefusals::rich;
    private static final Setup FULL = BoundsOfRefusals::full;
    private static final Setup LATE = () -> late(11);

    private static final Going[] GOINGS = {
        BoundsOfRefusals::asked, BoundsOfRefusals::undone, BoundsOfRefusals::broughtBack, BoundsOfRefusals::carriedOn,
        BoundsOfRefusals::drawn, BoundsOfRefusals::lawRead, BoundsOfRefusals::townRead, BoundsOfRefusals::toldMore,
        BoundsOfRefusals::byEachLaw, BoundsOfRefusals::fedMore,
    };

    static void runAll() {
        tape();
        texts();
        laws();
        acts();
        actsLate();
        yearsAndDraws();
        told();
        images();
        askedOfNothing();
        askedWrongly();
        askedRightly();
    }

    // ---- how they are told ----

    private static SaintCarried taped() {
        SaintCarried x = new SaintCarried();
        Check.feed(x, "h;hx1;b;");
        return x;
    }

    private static SaintCarried rich() {
        SaintCarried x = Check.town(TOWN, "y:g/2+1");
        Check.feed(x, "y:t-t/3*3+q");
        x.text(1);
        x.carry(0);
        x.year();
        x.carry(1);
        x.image();
        x.rest();
        x.gift(0, 2);
        x.give(3);
        x.carry(2);
        x.stood(0, 3, 5);
        x.stood(1, 3, 2);
        x.seen(0, 3, false);
        x.faith(4);
        x.carry(9);
        Check.feed(x, "y:g/3+1");
        return x;
    }

    private static SaintCarried full() {
        SaintCarried x = rich();
        x.text(1);
        Check.feed(x, "y:3");
        x.text(1);
        for (int i = 0; i < 10; i++) {
            x.stood(3, i, 1);
            x.seen(6, i % 4, false);
        }
        for (int i = 0; i < 19; i++) {
            x.give(50);
        }
        x.give(999 - x.rule(1));
        x.decades(30, 8);
        Check.feed(x, "y:7");
        for (int i = 0; i < 12; i++) {
            x.feed(0x20202020, 0x20202020, 0x20202020, 0x20202020, i == 11 ? 0x20 : 0x20202020);
        }
        return x;
    }

    /** The last YEAR: TIME for 3 more, FRESH for 2 or for 5, no COINS; all ACTS that can be UNDONE but two are YEARS. */
    private static SaintCarried late(int strength) {
        SaintCarried x = Check.town("st20c2e9;hx9g9;hx9y3g9;hx9y4g9;hx9y9;bs" + strength, "y:n=0?8;y:0");
        x.faith(0);
        for (int i = 0; i < 17; i++) {
            x.decades(i == 16 ? 39 : 60, i);
        }
        x.image();
        x.gift(0, 2);
        x.carry(0);
        return x;
    }

    // ---- how they go on ----

    private static void asked(SaintCarried x, List<Long> answers) {
        answers.addAll(State.of(x));
    }

    private static void undone(SaintCarried x, List<Long> answers) {
        for (int i = 0; i < 12; i++) {
            answers.add((long) x.undo());
            answers.addAll(State.now(x));
        }
        for (int i = 0; i < 30; i++) {
            answers.add((long) x.undo());
        }
        answers.addAll(State.now(x));
    }

    private static void broughtBack(SaintCarried x, List<Long> answers) {
        answers.add((long) x.back());
        answers.addAll(State.of(x));
    }

    private static void carriedOn(SaintCarried x, List<Long> answers) {
        for (int house = 3; house >= 0; house--) {
            answers.add((long) x.carry(house));
            answers.add((long) x.gift(house, 1));
        }
        answers.add((long) x.rest());
        answers.add((long) x.give(5));
        answers.add((long) x.year());
        answers.add((long) x.image());
        answers.addAll(State.of(x));
    }

    private static void drawn(SaintCarried x, List<Long> answers) {
        answers.add((long) x.decades(33, 5));
        answers.addAll(State.of(x));
        answers.add(x.faith(7) ? 1L : 0L);
        answers.add((long) x.decades(33, 5));
        answers.addAll(State.of(x));
    }

    private static void lawRead(SaintCarried x, List<Long> answers) {
        answers.add((long) x.text(1));
        answers.add(x.law(x.count(2) - 1) ? 1L : 0L);
        answers.addAll(State.of(x));
    }

    private static void townRead(SaintCarried x, List<Long> answers) {
        x.end(Math.min(7, x.count(3)));
        answers.add((long) x.text(0));
        x.end(0);
        Check.feed(x, "hx1y1;hx3g7;b");
        answers.add((long) x.text(0));
        answers.addAll(State.of(x));
    }

    private static void toldMore(SaintCarried x, List<Long> answers) {
        answers.add((long) x.stood(3, 7, 1));
        answers.add((long) x.seen(1, 0, false));
        answers.addAll(State.of(x));
        for (int house = 0; house < 4; house++) {
            for (int i = 0; i < 31; i++) {
                answers.add((long) x.fits(house, i));
            }
        }
        for (int g = 1; g <= 9; g++) {
            answers.add((long) x.who(g, NONE));
            answers.add((long) x.who(g, 0));
        }
    }

    private static void byEachLaw(SaintCarried x, List<Long> answers) {
        for (int law = 3; law >= NONE; law--) {
            answers.add(x.law(law) ? 1L : 0L);
            for (int house = 0; house < 4; house++) {
                answers.add((long) x.stands(house));
            }
        }
    }

    private static void fedMore(SaintCarried x, List<Long> answers) {
        answers.add((long) x.feed(0x68, 0, 0, 0, 0));
        answers.addAll(State.of(x));
        while (x.count(3) > 0) {
            x.end(x.count(3) - 1);
            answers.add((long) x.fault(0) * 1000 + x.fault(1));
            if (x.count(3) > 24) {
                x.end(x.count(3) / 2);
            }
        }
    }

    // ---- what is compared ----

    /** status: the sort that is counted once more by the call; NONE, if none is. */
    private static void refused(int promise, String what, Setup setup, Call call, long answer, int status) {
        Sentence s = Sentence.of(promise, WORDS);
        for (int going = 0; going < GOINGS.length; going++) {
            SaintCarried one = setup.made();
            SaintCarried other = setup.made();
            s.due(what, call.of(one), answer);
            for (int sort = 0; sort < 5; sort++) {
                s.due(what + ": STATUS " + sort, one.status(sort), other.status(sort) + (sort == status ? 1 : 0));
            }
            List<Long> ones = new ArrayList<>();
            List<Long> others = new ArrayList<>();
            GOINGS[going].on(one, ones);
            GOINGS[going].on(other, others);
            s.due(what + ": going on " + going + " changed at " + firstUnlike(ones, others), ones.equals(others), true);
        }
    }

    private static int firstUnlike(List<Long> ones, List<Long> others) {
        for (int i = 0; i < ones.size() && i < others.size(); i++) {
            if (!ones.get(i).equals(others.get(i))) {
                return i;
            }
        }
        return NONE;
    }

    private static void quiet(int promise, String what, Setup setup, Call call, long answer) {
        refused(promise, what, setup, call, answer, NONE);
    }

    private static long flag(boolean is) {
        return is ? 1 : 0;
    }

    // ---- 2 to 5, 9 ----

    private static void tape() {
        quiet(2, "one byte more than 240", FULL, x -> x.feed(0, 0, 'h', 0, 0), NONE);
        quiet(2, "four bytes more than 240", FULL, x -> x.feed(0, 0, 0x683b6878, 0, 0), NONE);
        Setup nearly = () -> {
            SaintCarried x = full();
            x.end(230);
            return x;
        };
        quiet(2, "eleven where there is room for ten", nearly, x -> x.feed(0x683b6878, 0x313b6268, 0x3b6878, 0, 0), NONE);
        for (int n : new int[] {Integer.MIN_VALUE, -1, 241, Integer.MAX_VALUE}) {
            quiet(3, "end " + n, FULL, x -> flag(x.end(n)), 0);
            quiet(3, "end " + n, BARE, x -> flag(x.end(n)), 0);
        }
        quiet(3, "one more than there are", TAPED, x -> flag(x.end(9)), 0);
        quiet(4, "the FAULT of it", TAPED, x -> x.fault(0), 8);
        quiet(4, "the FAULT of it as a LAW", RICH, x -> x.fault(1), NONE);
        quiet(4, "no such sort", RICH, x -> x.fault(2), -2);
        quiet(4, "no such sort", BARE, x -> x.fault(-1), -2);
    }

    private static void texts() {
        quiet(5, "nothing as a TOWN", BARE, x -> x.text(0), NONE);
        quiet(5, "nothing as a LAW", BARE, x -> x.text(1), NONE);
        quiet(5, "a FAULT at the length", TAPED, x -> x.text(0), NONE);
        quiet(5, "a TOWN as a LAW", TAPED, x -> x.text(1), NONE);
        quiet(5, "no such sort", TAPED, x -> x.text(2), NONE);
        quiet(5, "a LAW as a TOWN", RICH, x -> x.text(0), NONE);
        quiet(5, "no such sort", RICH, x -> x.text(2), NONE);
        quiet(5, "no such sort", RICH, x -> x.text(-1), NONE);
        quiet(5, "there are four LAWS", FULL, x -> x.text(1), NONE);
        Setup spoilt = () -> {
            SaintCarried x = rich();
            x.end(0);
            Check.feed(x, "hx7g1;hx8;bs3;st9;hx9y9g30;hx8");
            return x;
        };
        quiet(5, "two HOUSES in one place", spoilt, x -> x.text(0), NONE);
        Setup spoiltLaw = () -> {
            SaintCarried x = rich();
            x.end(0);
            Check.feed(x, "y:9;y:g=1?3;y:[[t]");
            return x;
        };
        quiet(5, "a LAW that ends too early", spoiltLaw, x -> x.text(1), NONE);
    }

    private static void laws() {
        for (int law : new int[] {Integer.MIN_VALUE, -2, 4, Integer.MAX_VALUE}) {
            quiet(9, "LAW " + law, RICH, x -> flag(x.law(law)), 0);
            quiet(9, "LAW " + law, FULL, x -> flag(x.law(law)), 0);
        }
        quiet(9, "behind the last", RICH, x -> flag(x.law(2)), 0);
        quiet(9, "no LAW", FIRST, x -> flag(x.law(0)), 0);
        quiet(9, "no TOWN", BARE, x -> flag(x.law(0)), 0);
    }

    // ---- 12 to 16 ----

    private static void acts() {
        for (int house : new int[] {Integer.MIN_VALUE, -1, 4, Integer.MAX_VALUE}) {
            refused(12, "HOUSE " + house, RICH, x -> x.carry(house), NONE, 0);
            refused(14, "HOUSE " + house, RICH, x -> x.gift(house, 1), NONE, 0);
        }
        refused(12, "he is there", RICH, x -> x.carry(2), NONE, 2);
        refused(12, "was there", RICH, x -> x.carry(1), NONE, 2);
        refused(13, "nobody is TIRED", FIRST, SaintCarried::rest, NONE, 2);
        for (int n : new int[] {Integer.MIN_VALUE, -1, 0, 31, Integer.MAX_VALUE}) {
            refused(14, "of " + n, RICH, x -> x.gift(0, n), NONE, 1);
        }
        refused(14, "more than its GRIEVANCE", RICH, x -> x.gift(2, x.house(2, 2) + 1), NONE, 1);
        Setup few = () -> {
            SaintCarried x = Check.town("sc6;hg9;hx1g4;hx2;hx3;b");
            x.carry(1);
            x.image();
            x.gift(1, 1);
            return x;
        };
        refused(14, "one COIN too few", few, x -> x.gift(0, 6), NONE, 3);
        for (int n : new int[] {Integer.MIN_VALUE, -1, 0, 51, Integer.MAX_VALUE}) {
            refused(15, n + " COINS", RICH, x -> x.give(n), NONE, 1);
        }
        refused(15, "above 999", FULL, x -> x.give(1), NONE, 1);
        refused(12, "no TOWN", BARE, x -> x.carry(0), NONE, 0);
        refused(13, "no TOWN", BARE, SaintCarried::rest, NONE, 0);
        refused(14, "no TOWN", BARE, x -> x.gift(0, 1), NONE, 0);
        refused(15, "no TOWN", BARE, x -> x.give(1), NONE, 0);
        refused(16, "no TOWN", BARE, SaintCarried::year, NONE, 0);
    }

    private static void actsLate() {
        refused(12, "too TIRED by one", LATE, x -> x.carry(1), NONE, 4);
        refused(12, "no TIME by one", () -> late(14), x -> x.carry(2), NONE, 4);
        refused(12, "he is there", LATE, x -> x.carry(0), NONE, 2);
        refused(13, "no TIME", LATE, SaintCarried::rest, NONE, 4);
        refused(14, "no COINS", LATE, x -> x.gift(1, 1), NONE, 3);
        refused(16, "beyond 999", LATE, SaintCarried::year, NONE, 4);
    }

    private static void yearsAndDraws() {
        for (int v : new int[] {Integer.MIN_VALUE, -1, 10, Integer.MAX_VALUE}) {
            quiet(17, "FAITH " + v, RICH, x -> flag(x.faith(v)), 0);
        }
        quiet(17, "it is so", RICH, x -> flag(x.faith(4)), 0);
        quiet(17, "it is so at first", BARE, x -> flag(x.faith(7)), 0);
        for (int n : new int[] {Integer.MIN_VALUE, -1, 0, 61, Integer.MAX_VALUE}) {
            quiet(18, n + " ACTS", RICH, x -> x.decades(n, 5), NONE);
        }
        quiet(18, "no TOWN", BARE, x -> x.decades(1, 5), NONE);
        quiet(20, "none", FIRST, SaintCarried::undo, NONE);
        quiet(20, "no TOWN", BARE, SaintCarried::undo, NONE);
    }

    // ---- 26, 33, 41, 42 ----

    private static void told() {
        int[][] wrong = {{4, 0, 0}, {-1, 0, 0}, {0, -1, 0}, {0, 100, 0}, {0, 0, -1}, {0, 0, 61}};
        for (int[] one : wrong) {
            quiet(26, one[0] + ", " + one[1] + ", " + one[2], RICH, x -> x.stood(one[0], one[1], one[2]), NONE);
        }
        quiet(26, "there are ten", FULL, x -> x.stood(0, 0, 7), NONE);
        quiet(26, "no TOWN", BARE, x -> x.stood(0, 0, 0), NONE);
        int[][] unseen = {{0, 4}, {0, -1}, {-1, 0}, {7, 0}};
        for (int[] one : unseen) {
            quiet(33, one[0] + ", " + one[1], RICH, x -> x.seen(one[0], one[1], true), NONE);
        }
        quiet(33, "there are ten", FULL, x -> x.seen(0, 0, true), NONE);
        quiet(33, "no TOWN", BARE, x -> x.seen(0, 0, true), NONE);
    }

    private static void images() {
        quiet(41, "no TOWN", BARE, SaintCarried::image, NONE);
        quiet(42, "no TOWN", BARE, SaintCarried::back, NONE);
        quiet(42, "no IMAGE", FIRST, SaintCarried::back, NONE);
        Setup another = () -> {
            SaintCarried x = rich();
            x.end(0);
            Check.feed(x, TOWN);
            x.text(0);
            x.carry(0);
            return x;
        };
        quiet(42, "an IMAGE of another TOWN", another, SaintCarried::back, NONE);
    }

    // ---- what is asked ----

    private static void askedOfNothing() {
        quiet(6, "no TOWN", BARE, x -> x.rule(0), NONE);
        quiet(7, "no TOWN", BARE, x -> Check.house(x, 0, 0), HIDDEN);
        quiet(8, "no TOWN", BARE, x -> x.bearer(0), NONE);
        quiet(10, "no TOWN", BARE, x -> x.steps(NONE, 0), NONE);
        quiet(11, "no TOWN", BARE, x -> x.stands(0), NONE);
        quiet(19, "no such what", BARE, x -> x.status(5), NONE);
        quiet(21, "no TOWN", BARE, x -> x.log(0, 0), NONE);
        quiet(22, "no TOWN", BARE, x -> x.route(0), NONE);
        quiet(23, "no TOWN", BARE, x -> x.order(0), NONE);
        quiet(24, "no TOWN", BARE, x -> x.shorter(0, 1), NONE);
        quiet(25, "no TOWN", BARE, x -> x.roster(1), NONE);
        quiet(27, "no TOWN", BARE, x -> x.fits(0, NONE), NONE);
        quiet(28, "no TOWN", BARE, x -> x.ask(0), NONE);
        quiet(29, "no TOWN", BARE, x -> x.game(0, 1, 0, 0, 0), HIDDEN);
        quiet(30, "no TOWN", BARE, x -> x.rests(0, 1, NONE), NONE);
        quiet(31, "no TOWN", BARE, x -> x.rival(0), NONE);
        quiet(32, "no TOWN", BARE, x -> x.meets(0), NONE);
        quiet(34, "no TOWN", BARE, x -> x.who(1, NONE), NONE);
        quiet(35, "no TOWN", BARE, x -> x.odds(0, 0), NONE);
        quiet(36, "no TOWN", BARE, x -> x.shares(0, 1), NONE);
        quiet(37, "no TOWN", BARE, x -> x.most(0), NONE);
        quiet(38, "no TOWN", BARE, x -> x.years(1), NONE);
        quiet(39, "no TOWN", BARE, x -> x.waits(0), NONE);
        quiet(40, "no TOWN", BARE, x -> x.remains(0), HIDDEN);
        quiet(43, "others", BARE, x -> x.count(16), HIDDEN);
    }

    private static void askedWrongly() {
        quiet(6, "no such what", RICH, x -> x.rule(4), NONE);
        quiet(7, "no such HOUSE", RICH, x -> Check.house(x, 4, 0), HIDDEN);
        quiet(8, "no such one", RICH, x -> x.bearer(2), NONE);
        quiet(10, "no such one", RICH, x -> x.steps(NONE, 4), NONE);
        quiet(11, "no such HOUSE", RICH, x -> x.stands(4), NONE);
        quiet(19, "no such what", RICH, x -> x.status(5), NONE);
        quiet(21, "no such one", RICH, x -> x.log(3, 0), NONE);
        quiet(22, "no such what", RICH, x -> x.route(3), NONE);
        quiet(23, "no such what", RICH, x -> x.order(2), NONE);
        quiet(24, "out of bounds", RICH, x -> x.shorter(0, 61), NONE);
        quiet(25, "out of bounds", RICH, x -> x.roster(201), NONE);
        quiet(27, "no such one", RICH, x -> x.fits(0, 31), NONE);
        quiet(28, "out of bounds", RICH, x -> x.ask(100), NONE);
        quiet(29, "out of bounds", RICH, x -> x.game(0, 1, 10, 0, 0), HIDDEN);
        quiet(30, "alike", RICH, x -> x.rests(0, 0, NONE), NONE);
        quiet(31, "no such HOUSE", RICH, x -> x.rival(4), NONE);
        quiet(32, "no such HOUSE", RICH, x -> x.meets(4), NONE);
        quiet(34, "out of bounds", RICH, x -> x.who(10, NONE), NONE);
        quiet(35, "out of bounds", RICH, x -> x.odds(8, 0), NONE);
        quiet(36, "out of bounds", RICH, x -> x.shares(0, 1000), NONE);
        quiet(37, "no such what", RICH, x -> x.most(8), NONE);
        quiet(38, "out of bounds", RICH, x -> x.years(201), NONE);
        quiet(39, "out of bounds", RICH, x -> x.waits(61), NONE);
        quiet(40, "no such HOUSE", RICH, x -> x.remains(4), HIDDEN);
        quiet(43, "others", RICH, x -> x.count(-1), HIDDEN);
    }

    /** What isn't refused of Terms 3 changes nothing either. */
    private static void askedRightly() {
        Call[] asked = {
            x -> x.route(0), x -> x.order(1), x -> x.shorter(0, 1), x -> x.roster(7), x -> x.fits(0, NONE), x -> x.ask(3),
            x -> x.game(0, 3, 2, 1, 0), x -> x.rests(0, 3, NONE), x -> x.rival(2), x -> x.meets(2), x -> x.who(9, NONE),
            x -> x.odds(2, 50), x -> x.shares(0, 99), x -> x.most(0), x -> x.years(199), x -> x.waits(1), x -> x.remains(3),
            x -> x.stands(3), x -> x.steps(NONE, 3), x -> x.fault(0), x -> x.fault(1),
        };
        int[] promises = {22, 23, 24, 25, 27, 28, 29, 30, 31, 32, 34, 35, 36, 37, 38, 39, 40, 11, 10, 4, 4};
        for (int i = 0; i < asked.length; i++) {
            Call call = asked[i];
            Sentence s = Sentence.of(promises[i], promises[i] > 21 ? "(Apart, from as it is now.)" : WORDS);
            for (int going = 0; going < GOINGS.length; going++) {
                SaintCarried one = rich();
                SaintCarried other = rich();
                long answer = call.of(one);
                s.due("asked " + i + " again", call.of(one), answer);
                List<Long> ones = new ArrayList<>();
                List<Long> others = new ArrayList<>();
                GOINGS[going].on(one, ones);
                GOINGS[going].on(other, others);
                s.due("asked " + i + ", going on " + going, ones.equals(others), true);
                for (int sort = 0; sort < 5; sort++) {
                    s.due("asked " + i + ": STATUS " + sort, one.status(sort), other.status(sort));
                }
            }
        }
    }
}
