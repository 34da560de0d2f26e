import java.util.NoSuchElementException;

/** A saint's litter carried from door to door through a town; ../shared/DOC.md says what each call does. */
public final class SaintCarried {
    public static final int NONE = -1;
    public static final int HIDDEN = -1000000;

    private static final int NO_SUCH_SORT = -2;
    private static final int TAPE_MOST = 240;
    private static final int BLANK = 32;

    private static final int HOUSES_MOST = 7;
    private static final int BEARERS_MOST = 5;
    private static final int LAWS_MOST = 4;
    private static final int GRIEVANCE_MOST = 30;
    private static final int STAND_MOST = 60;
    private static final int TIME_MOST = 99;
    private static final int COINS_MOST = 999;
    private static final int GIVEN_MOST = 50;
    private static final int YEAR_LAST = 999;
    private static final int FAITH_MOST = 9;
    private static final int DECADES_MOST = 60;
    private static final int YEARS_AHEAD = 60;
    private static final int SUMS_MOST = 200;
    private static final int SHARED_MOST = 999;
    private static final int TOLD_MOST = 10;
    private static final int CLAIMS = 10;
    private static final int MORE_MOST = 9;
    private static final int NOBODY = 9;
    private static final int REST_TIME = 5;
    private static final int REST_RELIEF = 10;
    private static final int RIVAL_STAYS = 2;
    private static final int ALL_PARTS = 1000000000;

    private static final int UNDO_MOST = 40;
    private static final int LOG_MOST = 60;
    private static final int LOG_COLUMNS = 4;
    // 60 that are told and 40 more, which acts undone bring to light again.
    private static final int LOG_ROWS = LOG_MOST + UNDO_MOST;

    private static final int STATUS_SORTS = 5;
    private static final int NO_SUCH_ONE = 0;
    private static final int OUT_OF_BOUNDS = 1;
    private static final int WAS_THERE = 2;
    private static final int TOO_FEW_COINS = 3;
    private static final int NO_TIME = 4;

    // The kinds of CLAUSES of a TOWN: its RULES, a HOUSE, a BEARER.
    private static final int KIND_RULES = 0;
    private static final int KIND_HOUSE = 1;
    private static final int KIND_BEARER = 2;
    private static final int KINDS = 3;
    private static final int[] KIND_SIGN = {'s', 'h', 'b'};
    private static final int[] KIND_MOST = {1, HOUSES_MOST, BEARERS_MOST};
    private static final int HOUSE_SLOT = 3;
    private static final int BEARER_SLOT = 31;
    private static final int[] KIND_SLOT = {0, HOUSE_SLOT, BEARER_SLOT};
    private static final int[] KIND_ITEMS = {3, 4, 1};
    private static final int[] KIND_FIRST_ITEM = {0, 3, 7};
    private static final int SLOTS = 36;
    private static final int ITEMS_MOST = 4;
    private static final int[] ITEM_SIGN = {'t', 'c', 'e', 'x', 'y', 'g', 'q', 's'};
    private static final int[] ITEM_LEAST = {1, 0, 0, 0, 0, 0, 0, 1};
    private static final int[] ITEM_MOST = {99, 99, 9, 9, 9, 30, 1, 40};
    private static final int[] ITEM_USUAL = {60, 20, 2, 0, 0, 5, 0, 20};
    private static final int TOWN_DIGITS = 2;

    private static final int LAW_DIGITS = 4;
    private static final int NESTED_MOST = 6;
    private static final int NUMBER_MOST = 1000000;
    // Six nested brackets of two waiting numbers each, and what waits outside them, need 18.
    private static final int STACK_ROOM = 32;
    // In a LAW's code a number stands for itself, a sign for its work, negated.
    private static final int CLAUSE_END = -';';
    private static final int CLAUSE_IF = -'?';

    private final Tape tape;
    private final TownReader townReader;
    private final LawReader lawReader;
    private final Town town;
    private final LawBook book;
    private final Day now;
    private final Past past;
    private final Litter litter;
    private final Witness witness;
    private final Row row;
    private final int[] refusals;
    private final int[] tally;
    private final int[] oneStands;
    private final int[] otherStands;
    private int belief;
    private long drawn;

    public SaintCarried() {
        tape = new Tape();
        townReader = new TownReader(tape);
        lawReader = new LawReader(tape);
        town = new Town();
        book = new LawBook();
        now = new Day();
        past = new Past();
        litter = new Litter(town, book, now);
        witness = new Witness();
        row = new Row();
        refusals = new int[STATUS_SORTS];
        tally = new int[STAND_MOST + 1];
        oneStands = new int[CLAIMS];
        otherStands = new int[CLAIMS];
        belief = 7;
    }

    // ---- the tape, the town, the laws ----

    public int feed(int a, int b, int c, int d, int e) {
        int more = signsIn(a) + signsIn(b) + signsIn(c) + signsIn(d) + signsIn(e);
        if (more > TAPE_MOST - tape.size()) {
            return NONE;
        }
        tape.append(a);
        tape.append(b);
        tape.append(c);
        tape.append(d);
        tape.append(e);
        return tape.size();
    }

    public boolean end(int n) {
        if (n < 0 || n > tape.size()) {
            return false;
        }
        tape.cut(n);
        return true;
    }

    public int fault(int sort) {
        if (sort != 0 && sort != 1) {
            return NO_SUCH_SORT;
        }
        boolean isRead = sort == 0 ? townReader.reads() : lawReader.reads();
        return isRead ? NONE : tape.wrongAt();
    }

    public int text(int sort) {
        if (sort == 0) {
            return townReader.reads() ? settle() : NONE;
        }
        if (sort == 1 && book.number() < LAWS_MOST && lawReader.reads()) {
            tape.cut(0);
            return book.add(lawReader.draft());
        }
        return NONE;
    }

    private int settle() {
        tape.cut(0);
        town.copy(townReader.draft());
        now.begin(town);
        past.forget();
        witness.forget();
        return town.houses();
    }

    public int rule(int what) {
        if (!town.isTold()) {
            return NONE;
        }
        switch (what) {
            case 0:
                return town.timeThereIs();
            case 1:
                return now.coins;
            case 2:
                return town.growth();
            case 3:
                return town.strength();
            default:
                return NONE;
        }
    }

    public int house(int house, int what) throws NoSuchElementException {
        if (!town.isHouse(house) || what < 0 || what > 4) {
            throw new NoSuchElementException();
        }
        switch (what) {
            case 0:
                return town.xOf(house);
            case 1:
                return town.yOf(house);
            case 2:
                return now.grievanceOf(house);
            case 3:
                return town.isThankful(house) ? 1 : 0;
            default:
                return now.wasAt(house) ? 1 : 0;
        }
    }

    public int bearer(int bearer) {
        return bearer >= 0 && bearer < town.bearers() ? town.strengthOf(bearer) : NONE;
    }

    public boolean law(int law) {
        return book.choose(law);
    }

    public int steps(int one, int other) {
        if ((one != NONE && !town.isHouse(one)) || !town.isHouse(other)) {
            return NONE;
        }
        return one == NONE ? stepsTo(other) : town.distance(one, other);
    }

    public int stands(int house) {
        return town.isHouse(house) ? standsNow(house, now.grievanceOf(house)) : NONE;
    }

    private int stepsTo(int house) {
        return town.distance(now.place, house);
    }

    private int standsNow(int house, int grievance) {
        int way = stepsTo(house);
        return book.standing(grievance, town.isThankful(house), now.time + way, now.doors(), way, now.year);
    }

    // ---- the acts ----

    public int carry(int house) {
        if (!town.isHouse(house)) {
            return refused(NO_SUCH_ONE);
        }
        if (now.place == house || now.wasAt(house)) {
            return refused(WAS_THERE);
        }
        litter.setOut();
        if (!litter.comesTo(house)) {
            return refused(NO_TIME);
        }
        past.keep(now);
        return arrived(house);
    }

    // The litter has tried the way already: it becomes what is so.
    private int arrived(int house) {
        int eased = litter.easedThere;
        now.time = litter.time;
        now.tired = litter.tired;
        now.place = litter.place;
        now.was = litter.was;
        now.setGrievance(house, now.grievanceOf(house) - eased);
        now.eased += eased;
        past.note(now, house, litter.stoodThere, eased);
        return eased;
    }

    public int rest() {
        if (!town.isTold()) {
            return refused(NO_SUCH_ONE);
        }
        if (now.tired == 0) {
            return refused(WAS_THERE);
        }
        if (now.time + REST_TIME > town.timeThereIs()) {
            return refused(NO_TIME);
        }
        past.keep(now);
        now.time += REST_TIME;
        now.tired = Math.max(0, now.tired - REST_RELIEF);
        return now.tired;
    }

    public int gift(int house, int n) {
        if (!town.isHouse(house)) {
            return refused(NO_SUCH_ONE);
        }
        if (n < 1 || n > GRIEVANCE_MOST || n > now.grievanceOf(house)) {
            return refused(OUT_OF_BOUNDS);
        }
        if (n > now.coins) {
            return refused(TOO_FEW_COINS);
        }
        past.keep(now);
        now.coins -= n;
        now.setGrievance(house, now.grievanceOf(house) - n);
        return now.grievanceOf(house);
    }

    public int give(int n) {
        if (!town.isTold()) {
            return refused(NO_SUCH_ONE);
        }
        if (n < 1 || n > GIVEN_MOST || n > COINS_MOST - now.coins) {
            return refused(OUT_OF_BOUNDS);
        }
        past.keep(now);
        now.coins += n;
        return now.coins;
    }

    public int year() {
        if (!town.isTold()) {
            return refused(NO_SUCH_ONE);
        }
        if (now.year >= YEAR_LAST) {
            return refused(NO_TIME);
        }
        past.keep(now);
        goBy();
        return now.year;
    }

    private void goBy() {
        now.year++;
        now.goHome();
        for (int house = 0; house < town.houses(); house++) {
            now.setGrievance(house, grown(house, 1));
        }
    }

    private int grown(int house, int years) {
        int grievance = now.grievanceOf(house);
        if (town.isThankful(house)) {
            return grievance;
        }
        return Math.min(GRIEVANCE_MOST, grievance + years * town.growth());
    }

    private int refused(int sort) {
        if (sort >= 0 && sort < refusals.length) {
            refusals[sort]++;
        }
        return NONE;
    }

    public boolean faith(int v) {
        if (v < 0 || v > FAITH_MOST || v == belief) {
            return false;
        }
        belief = v;
        return true;
    }

    public int decades(int n, long seed) {
        if (!town.isTold() || n < 1 || n > DECADES_MOST) {
            return NONE;
        }
        drawn = seed;
        int doors = 0;
        for (int act = 0; act < n; act++) {
            past.keep(now);
            if (draw(10) < belief) {
                doors += triedDoor(draw(town.houses()));
            } else if (now.year < YEAR_LAST) {
                goBy();
            }
        }
        return doors;
    }

    private int triedDoor(int house) {
        litter.setOut();
        if (!litter.comesTo(house)) {
            return 0;
        }
        arrived(house);
        return 1;
    }

    private int draw(int j) {
        drawn = drawn * 6364136223846793005L + 1442695040888963407L;
        return j <= 0 ? 0 : (int) ((drawn >>> 33) % j);
    }

    public int status(int what) {
        return what >= 0 && what < refusals.length ? refusals[what] : NONE;
    }

    public int undo() {
        return past.takeBack(now) ? past.kept() : NONE;
    }

    public int log(int i, int what) {
        return past.noted(now, i, what);
    }

    // ---- ways through the town ----

    public int route(int what) {
        if (!town.isTold() || what < 0 || what > 2) {
            return NONE;
        }
        litter.findRoute();
        if (what == 0) {
            return litter.bestCount == 0 ? NONE : litter.bestRow;
        }
        return what == 1 ? litter.bestEased : litter.bestTime;
    }

    public int order(int what) {
        if (!town.isTold() || what < 0 || what > 1) {
            return NONE;
        }
        orderNow();
        if (what == 0) {
            return row.size() == 0 ? NONE : row.digits();
        }
        litter.setOut();
        for (int i = 0; i < row.size(); i++) {
            if (!litter.comesTo(row.houseAt(i))) {
                return i;
            }
        }
        return row.size();
    }

    private void orderNow() {
        row.clear();
        for (int house = 0; house < town.houses(); house++) {
            if (!now.wasAt(house)) {
                row.put(house, now.grievanceOf(house));
            }
        }
    }

    public int shorter(int house, int m) {
        if (!town.isHouse(house) || m < 0 || m > STAND_MOST) {
            return NONE;
        }
        int grievance = now.grievanceOf(house);
        for (int n = 0; n <= grievance; n++) {
            if (standsNow(house, grievance - n) <= m) {
                return n;
            }
        }
        return NONE;
    }

    public int roster(int n) {
        if (!town.isTold() || n < 1 || n > SUMS_MOST) {
            return NONE;
        }
        int best = NONE;
        for (int bits = 1; bits < 1 << town.bearers(); bits++) {
            if (strengthOfAll(bits) >= n && (best == NONE || Integer.bitCount(bits) < Integer.bitCount(best))) {
                best = bits;
            }
        }
        return best;
    }

    private int strengthOfAll(int bits) {
        int sum = 0;
        for (int bearer = 0; bearer < town.bearers(); bearer++) {
            if (hasBit(bits, bearer)) {
                sum += town.strengthOf(bearer);
            }
        }
        return sum;
    }

    // ---- grievances that fit how long he stood ----

    public int stood(int house, int time, int m) {
        if (!town.isHouse(house) || time < 0 || time > TIME_MOST || m < 0 || m > STAND_MOST) {
            return NONE;
        }
        return witness.tellStood(house, time, m);
    }

    public int fits(int house, int i) {
        if (!town.isHouse(house)) {
            return NONE;
        }
        int found = 0;
        for (int grievance = 0; grievance <= GRIEVANCE_MOST; grievance++) {
            if (isFitting(house, grievance)) {
                if (found == i) {
                    return grievance;
                }
                found++;
            }
        }
        return i == NONE ? found : NONE;
    }

    private boolean isFitting(int house, int grievance) {
        for (int i = 0; i < witness.stoods(); i++) {
            if (witness.stoodHouse(i) == house
                    && standsFirst(house, grievance, witness.stoodTime(i)) != witness.stoodLong(i)) {
                return false;
            }
        }
        return true;
    }

    private int standsFirst(int house, int grievance, int time) {
        return book.standing(grievance, town.isThankful(house), time, 0, town.distance(NONE, house), now.year);
    }

    public int ask(int time) {
        if (!town.isTold() || time < 0 || time > TIME_MOST) {
            return NONE;
        }
        int best = NONE;
        int bestAlike = 0;
        for (int house = 0; house < town.houses(); house++) {
            int alike = mostAlike(house, time);
            if (alike > 0 && (best == NONE || alike < bestAlike)) {
                best = house;
                bestAlike = alike;
            }
        }
        return best;
    }

    private int mostAlike(int house, int time) {
        for (int i = 0; i < tally.length; i++) {
            tally[i] = 0;
        }
        int most = 0;
        for (int grievance = 0; grievance <= GRIEVANCE_MOST; grievance++) {
            if (isFitting(house, grievance)) {
                most = Math.max(most, tallied(standsFirst(house, grievance, time)));
            }
        }
        return most;
    }

    private int tallied(int stays) {
        if (stays < 0 || stays >= tally.length) {
            return 0;
        }
        tally[stays]++;
        return tally[stays];
    }

    // ---- games of claims ----

    public int game(int one, int other, int x, int y, int what) {
        if (!arePlaying(one, other) || !isClaim(x) || !isClaim(y) || what < 0 || what > 1) {
            return HIDDEN;
        }
        return what == 0 ? gain(standsClaimed(one, x), x, y) : gain(standsClaimed(other, y), y, x);
    }

    public int rests(int one, int other, int i) {
        if (!arePlaying(one, other)) {
            return NONE;
        }
        for (int claim = 0; claim < CLAIMS; claim++) {
            setCell(oneStands, claim, standsClaimed(one, claim));
            setCell(otherStands, claim, standsClaimed(other, claim));
        }
        int found = 0;
        for (int pair = 0; pair < CLAIMS * CLAIMS; pair++) {
            if (isBest(oneStands, pair / CLAIMS, pair % CLAIMS) && isBest(otherStands, pair % CLAIMS, pair / CLAIMS)) {
                if (found == i) {
                    return pair;
                }
                found++;
            }
        }
        return i == NONE ? found : NONE;
    }

    private boolean arePlaying(int one, int other) {
        return town.isHouse(one) && town.isHouse(other) && one != other;
    }

    private int standsClaimed(int house, int claim) {
        return standsNow(house, Math.min(GRIEVANCE_MOST, now.grievanceOf(house) + claim));
    }

    private static boolean isClaim(int claim) {
        return claim >= 0 && claim < CLAIMS;
    }

    private static int gain(int stays, int own, int others) {
        return stays - (others > own ? 4 : 0) - own / 2;
    }

    private static boolean isBest(int[] stays, int own, int others) {
        int has = gain(cell(stays, own), own, others);
        for (int claim = 0; claim < CLAIMS; claim++) {
            if (gain(cell(stays, claim), claim, others) > has) {
                return false;
            }
        }
        return true;
    }

    // ---- the rival litter ----

    public int rival(int house) {
        return town.isHouse(house) ? rivalComes(house) : NONE;
    }

    public int meets(int house) {
        if (!town.isHouse(house)) {
            return NONE;
        }
        int itComes = rivalComes(house);
        if (itComes == NONE) {
            return 0;
        }
        int heComes = now.time + stepsTo(house);
        int heStays = Math.max(1, standsNow(house, now.grievanceOf(house)));
        return itComes < heComes + heStays && heComes < itComes + RIVAL_STAYS ? 1 : 0;
    }

    private int rivalComes(int house) {
        int time = 0;
        int from = NONE;
        for (int next = 0; next < town.houses(); next++) {
            if (now.grievanceOf(next) == 0) {
                time += town.distance(from, next);
                if (next == house) {
                    return time;
                }
                time += RIVAL_STAYS;
                from = next;
            }
        }
        return NONE;
    }

    // ---- who had more by the order ----

    public int seen(int i, int house, boolean is) {
        if (!town.isHouse(house) || i < 0 || i >= HOUSES_MOST) {
            return NONE;
        }
        return witness.tellSeen(i, house, is);
    }

    public int who(int g, int i) {
        if (!town.isTold() || g < 1 || g > MORE_MOST) {
            return NONE;
        }
        int found = 0;
        for (int had = 0; had <= NOBODY; had++) {
            if ((had < town.houses() || had == NOBODY) && isSeenSo(had, g)) {
                if (found == i) {
                    return had;
                }
                found++;
            }
        }
        return i == NONE ? found : NONE;
    }

    private boolean isSeenSo(int had, int more) {
        orderTold(had, more);
        for (int i = 0; i < witness.seens(); i++) {
            boolean is = row.houseAt(witness.seenPlace(i)) == witness.seenHouse(i);
            if (is != witness.seenIs(i)) {
                return false;
            }
        }
        return true;
    }

    private void orderTold(int had, int more) {
        row.clear();
        for (int house = 0; house < town.houses(); house++) {
            int grievance = town.toldGrievance(house) + (house == had ? more : 0);
            row.put(house, Math.min(GRIEVANCE_MOST, grievance));
        }
    }

    // ---- odds of rain, shares ----

    public int odds(int k, int chance) {
        if (!town.isTold() || k < 0 || k > HOUSES_MOST || chance < 0 || chance > 100) {
            return NONE;
        }
        orderNow();
        return k > row.size() ? 0 : (int) partsThrough(0, k, chance, now.time, ALL_PARTS);
    }

    private long partsThrough(int i, int k, int chance, int time, long parts) {
        if (i >= k || i >= HOUSES_MOST || parts == 0) {
            return parts;
        }
        int from = i == 0 ? now.place : row.houseAt(i - 1);
        int way = town.distance(from, row.houseAt(i));
        long rain = parts * chance / 100;
        return partsBehind(i, k, chance, time + way + way / 2, rain) + partsBehind(i, k, chance, time + way, parts - rain);
    }

    private long partsBehind(int i, int k, int chance, int comes, long parts) {
        int house = row.houseAt(i);
        int way = town.distance(i == 0 ? now.place : row.houseAt(i - 1), house);
        int grievance = now.grievanceOf(house);
        int stays = book.standing(grievance, town.isThankful(house), comes, now.doors() + i, way, now.year);
        if (comes + stays > town.timeThereIs()) {
            return 0;
        }
        return partsThrough(i + 1, k, chance, comes + stays, parts);
    }

    public int shares(int house, int c) {
        if (!town.isHouse(house) || c < 0 || c > SHARED_MOST) {
            return NONE;
        }
        int all = grievancesIn(0);
        return all <= 0 ? 0 : c * now.grievanceOf(house) / all;
    }

    private int grievancesIn(int years) {
        int sum = 0;
        for (int house = 0; house < town.houses(); house++) {
            sum += grown(house, years);
        }
        return sum;
    }

    // ---- what is most, left, ahead ----

    public int most(int what) {
        if (!town.isTold()) {
            return NONE;
        }
        switch (what) {
            case 0:
                return hardest();
            case 1:
                return nearest();
            case 2:
                return farthest();
            case 3:
                return content();
            case 4:
                return town.timeThereIs() - now.time;
            case 5:
                return town.strength() - now.tired;
            case 6:
                return now.was;
            case 7:
                return town.distance(now.place, NONE);
            default:
                return NONE;
        }
    }

    private int hardest() {
        int best = 0;
        for (int house = 1; house < town.houses(); house++) {
            if (now.grievanceOf(house) > now.grievanceOf(best)) {
                best = house;
            }
        }
        return best;
    }

    private int nearest() {
        int best = NONE;
        for (int house = 0; house < town.houses(); house++) {
            if (house != now.place && (best == NONE || stepsTo(house) < stepsTo(best))) {
                best = house;
            }
        }
        return best;
    }

    private int farthest() {
        int best = 0;
        for (int house = 1; house < town.houses(); house++) {
            if (town.distance(NONE, house) > town.distance(NONE, best)) {
                best = house;
            }
        }
        return best;
    }

    private int content() {
        int bits = 0;
        for (int house = 0; house < town.houses(); house++) {
            if (now.grievanceOf(house) == 0) {
                bits |= 1 << house;
            }
        }
        return bits;
    }

    public int years(int n) {
        if (!town.isTold() || n < 1 || n > SUMS_MOST) {
            return NONE;
        }
        for (int years = 0; years <= YEARS_AHEAD; years++) {
            if (grievancesIn(years) >= n) {
                return years;
            }
        }
        return NONE;
    }

    public int waits(int n) {
        if (!town.isTold() || n < 0 || n > STAND_MOST) {
            return NONE;
        }
        int bits = 0;
        for (int house = 0; house < town.houses(); house++) {
            if (!now.wasAt(house) && standsNow(house, now.grievanceOf(house)) >= n) {
                bits |= 1 << house;
            }
        }
        return bits;
    }

    public int remains(int house) {
        if (!town.isHouse(house)) {
            return HIDDEN;
        }
        return town.timeThereIs() - now.time - stepsTo(house) - standsNow(house, now.grievanceOf(house));
    }

    // ---- images, counts ----

    public int image() {
        if (!town.isTold()) {
            return NONE;
        }
        past.draw(now);
        return now.year;
    }

    public int back() {
        return past.bringBack(now) ? now.year : NONE;
    }

    public int count(int what) {
        switch (what) {
            case 0:
                return town.houses();
            case 1:
                return town.bearers();
            case 2:
                return book.number();
            case 3:
                return tape.size();
            case 4:
                return book.holding();
            case 11:
                return belief;
            case 12:
                return witness.stoods();
            case 13:
                return witness.seens();
            case 15:
                return past.kept();
            default:
                return countNow(what);
        }
    }

    private int countNow(int what) {
        switch (what) {
            case 5:
                return now.year;
            case 6:
                return now.time;
            case 7:
                return now.place;
            case 8:
                return now.doors();
            case 9:
                return now.tired;
            case 10:
                return now.eased;
            case 14:
                return now.logLength();
            default:
                return HIDDEN;
        }
    }

    // ---- rows of numbers ----

    private static int cell(int[] cells, int i) {
        return i >= 0 && i < cells.length ? cells[i] : 0;
    }

    private static void setCell(int[] cells, int i, int value) {
        if (i >= 0 && i < cells.length) {
            cells[i] = value;
        }
    }

    private static boolean hasBit(int bits, int i) {
        return i >= 0 && i < 31 && (bits >> i & 1) == 1;
    }

    private static int indexOf(int[] cells, int value) {
        for (int i = 0; i < cells.length; i++) {
            if (cells[i] == value) {
                return i;
            }
        }
        return NONE;
    }

    private static int signsIn(int number) {
        int signs = 0;
        for (int shift = 24; shift >= 0; shift -= 8) {
            if ((number >>> shift & 255) != 0) {
                signs++;
            }
        }
        return signs;
    }

    private static boolean isDigit(int sign) {
        return sign >= '0' && sign <= '9';
    }

    private static int within(long number, int least, int most) {
        return number < least ? least : number > most ? most : (int) number;
    }

    /** The bytes that came, with a head that reads them. */
    private static final class Tape {
        private final int[] signs;
        private int length;
        private int head;
        private int wrong;

        Tape() {
            signs = new int[TAPE_MOST];
            wrong = NONE;
        }

        int size() {
            return length;
        }

        void append(int number) {
            for (int shift = 24; shift >= 0; shift -= 8) {
                int sign = number >>> shift & 255;
                if (sign != 0 && length >= 0 && length < signs.length) {
                    signs[length] = sign;
                    length++;
                }
            }
        }

        void cut(int n) {
            if (n >= 0 && n <= length) {
                length = n;
            }
        }

        void rewind() {
            head = 0;
            wrong = NONE;
        }

        /** The next sign that is no blank; NONE at the end. */
        int peek() {
            while (head >= 0 && head < length && head < signs.length) {
                if (signs[head] != BLANK) {
                    return signs[head];
                }
                head++;
            }
            return NONE;
        }

        private int signAtHead() {
            return head >= 0 && head < length && head < signs.length ? signs[head] : NONE;
        }

        void pass() {
            if (head < length) {
                head++;
            }
        }

        boolean takes(int sign) {
            if (peek() != sign) {
                return fails();
            }
            pass();
            return true;
        }

        /** A number of so many digits at most; NONE, with what is wrong, if none stands here. */
        int takeNumber(int digits) {
            int value = NONE;
            if (!isDigit(peek())) {
                fails();
                return NONE;
            }
            for (int taken = 0; taken <= digits; taken++) {
                int sign = signAtHead();
                if (!isDigit(sign)) {
                    return value;
                }
                value = Math.max(value, 0) * 10 + sign - '0';
                if (taken < digits) {
                    pass();
                }
            }
            fails();
            return NONE;
        }

        boolean fails() {
            wrong = head;
            return false;
        }

        boolean failsAtLastDigit() {
            wrong = head - 1;
            return false;
        }

        boolean failsAtEnd() {
            wrong = length;
            return false;
        }

        int wrongAt() {
            return wrong;
        }
    }

    /** What is told of a town and doesn't change; place NONE is the niche. */
    private static final class Town {
        private final int[] slots;
        private final int[] clauses;

        Town() {
            slots = new int[SLOTS];
            clauses = new int[KINDS];
        }

        void clear() {
            for (int kind = 0; kind < KINDS; kind++) {
                setCell(clauses, kind, 0);
            }
            for (int slot = 0; slot < SLOTS; slot++) {
                put(slot, 0);
            }
            putUsual(KIND_RULES, 0);
        }

        void copy(Town other) {
            System.arraycopy(other.slots, 0, slots, 0, SLOTS);
            System.arraycopy(other.clauses, 0, clauses, 0, KINDS);
        }

        /** The first slot of one more CLAUSE; NONE, if there is no such kind or no more of it. */
        int open(int kind) {
            if (kind < 0 || kind >= KINDS || cell(clauses, kind) >= cell(KIND_MOST, kind)) {
                return NONE;
            }
            int slot = cell(KIND_SLOT, kind) + cell(clauses, kind) * cell(KIND_ITEMS, kind);
            putUsual(kind, slot);
            setCell(clauses, kind, cell(clauses, kind) + 1);
            return slot;
        }

        private void putUsual(int kind, int slot) {
            for (int item = 0; item < cell(KIND_ITEMS, kind); item++) {
                put(slot + item, cell(ITEM_USUAL, cell(KIND_FIRST_ITEM, kind) + item));
            }
        }

        void put(int slot, int value) {
            setCell(slots, slot, value);
        }

        boolean isWhole() {
            return houses() >= 2 && bearers() >= 1 && !hasSharedPlace();
        }

        private boolean hasSharedPlace() {
            for (int one = 0; one < houses(); one++) {
                for (int other = 0; other < one; other++) {
                    if (distance(one, other) == 0) {
                        return true;
                    }
                }
            }
            return false;
        }

        boolean isTold() {
            return houses() > 0;
        }

        boolean isHouse(int house) {
            return house >= 0 && house < houses();
        }

        int houses() {
            return cell(clauses, KIND_HOUSE);
        }

        int bearers() {
            return cell(clauses, KIND_BEARER);
        }

        int timeThereIs() {
            return cell(slots, 0);
        }

        int toldCoins() {
            return cell(slots, 1);
        }

        int growth() {
            return cell(slots, 2);
        }

        // What is no house, the niche too, has 0 of each.
        private int ofHouse(int house, int item) {
            if (house < 0 || house >= HOUSES_MOST || item < 0 || item >= ITEMS_MOST) {
                return 0;
            }
            int slot = HOUSE_SLOT + house * ITEMS_MOST + item;
            return slot < slots.length ? slots[slot] : 0;
        }

        int xOf(int house) {
            return ofHouse(house, 0);
        }

        int yOf(int house) {
            return ofHouse(house, 1);
        }

        int toldGrievance(int house) {
            return ofHouse(house, 2);
        }

        boolean isThankful(int house) {
            return ofHouse(house, 3) == 1;
        }

        int distance(int one, int other) {
            return Math.abs(xOf(one) - xOf(other)) + Math.abs(yOf(one) - yOf(other));
        }

        int strengthOf(int bearer) {
            return bearer >= 0 && bearer < bearers() ? cell(slots, BEARER_SLOT + bearer) : 0;
        }

        int strength() {
            int sum = 0;
            for (int bearer = 0; bearer < bearers(); bearer++) {
                sum += strengthOf(bearer);
            }
            return sum;
        }
    }

    /** Reads the tape as a town, into a draft. */
    private static final class TownReader {
        private final Tape tape;
        private final Town draft;

        TownReader(Tape tape) {
            this.tape = tape;
            draft = new Town();
        }

        Town draft() {
            return draft;
        }

        boolean reads() {
            tape.rewind();
            draft.clear();
            for (int clauses = 0; clauses < TAPE_MOST; clauses++) {
                if (!readsClause()) {
                    return false;
                }
                if (tape.peek() == NONE) {
                    return draft.isWhole() || tape.failsAtEnd();
                }
                if (!tape.takes(';')) {
                    return false;
                }
            }
            return tape.fails();
        }

        private boolean readsClause() {
            int kind = indexOf(KIND_SIGN, tape.peek());
            int slot = draft.open(kind);
            if (slot == NONE) {
                return tape.fails();
            }
            tape.pass();
            int given = 0;
            for (int items = 0; items <= ITEMS_MOST; items++) {
                int sign = tape.peek();
                if (sign == NONE || sign == ';') {
                    return true;
                }
                int item = itemOf(kind, sign);
                if (item == NONE || hasBit(given, item)) {
                    return tape.fails();
                }
                given |= 1 << item;
                tape.pass();
                if (!readsNumber(slot + item, cell(KIND_FIRST_ITEM, kind) + item)) {
                    return false;
                }
            }
            return tape.fails();
        }

        // The letters of another kind are no letters here.
        private static int itemOf(int kind, int sign) {
            for (int item = 0; item < cell(KIND_ITEMS, kind); item++) {
                if (cell(ITEM_SIGN, cell(KIND_FIRST_ITEM, kind) + item) == sign) {
                    return item;
                }
            }
            return NONE;
        }

        private boolean readsNumber(int slot, int bounds) {
            int value = tape.takeNumber(TOWN_DIGITS);
            if (value == NONE) {
                return false;
            }
            if (value < cell(ITEM_LEAST, bounds) || value > cell(ITEM_MOST, bounds)) {
                return tape.failsAtLastDigit();
            }
            draft.put(slot, value);
            return true;
        }
    }

    /** A law as code: what is worked with stands ahead of the sign that works. */
    private static final class Law {
        private final int[] code;
        private int length;

        Law() {
            code = new int[TAPE_MOST];
        }

        void clear() {
            length = 0;
        }

        void copy(Law other) {
            System.arraycopy(other.code, 0, code, 0, TAPE_MOST);
            length = other.length;
        }

        void add(int sign) {
            if (length >= 0 && length < code.length) {
                code[length] = sign;
                length++;
            }
        }

        int size() {
            return length;
        }

        int signAt(int i) {
            return cell(code, i);
        }
    }

    /** Reads the tape as a law, into a draft; nested tells how many of ( [ ! stand open. */
    private static final class LawReader {
        private final Tape tape;
        private final Law draft;

        LawReader(Tape tape) {
            this.tape = tape;
            draft = new Law();
        }

        Law draft() {
            return draft;
        }

        boolean reads() {
            tape.rewind();
            draft.clear();
            for (int clauses = 0; clauses < TAPE_MOST; clauses++) {
                if (!readsClause()) {
                    return false;
                }
                draft.add(CLAUSE_END);
                if (tape.peek() == NONE) {
                    return true;
                }
                if (!tape.takes(';')) {
                    return false;
                }
            }
            return tape.fails();
        }

        private boolean readsClause() {
            if (!tape.takes('y') || !tape.takes(':')) {
                return false;
            }
            int sign = tape.peek();
            if (sign == '!' || sign == '(') {
                return readsCondition(0, false) && readsWorth();
            }
            if (!readsSum(0)) {
                return false;
            }
            if (!isRelation(tape.peek())) {
                return true;
            }
            return readsRelation(0) && readsCondition(0, true) && readsWorth();
        }

        private boolean readsWorth() {
            if (!tape.takes('?')) {
                return false;
            }
            draft.add(CLAUSE_IF);
            return readsSum(0);
        }

        // begun: whether the first UNIT stands behind the head already, read as a SUM.
        private boolean readsCondition(int nested, boolean begun) {
            if (!readsTruth(nested, begun)) {
                return false;
            }
            for (int more = 0; more < TAPE_MOST; more++) {
                if (tape.peek() != '|') {
                    return true;
                }
                tape.pass();
                if (!readsTruth(nested, false)) {
                    return false;
                }
                draft.add(-'|');
            }
            return tape.fails();
        }

        private boolean readsTruth(int nested, boolean begun) {
            if (!begun && !readsUnit(nested)) {
                return false;
            }
            for (int more = 0; more < TAPE_MOST; more++) {
                if (tape.peek() != '&') {
                    return true;
                }
                tape.pass();
                if (!readsUnit(nested)) {
                    return false;
                }
                draft.add(-'&');
            }
            return tape.fails();
        }

        private boolean readsUnit(int nested) {
            int sign = tape.peek();
            if (sign != '!' && sign != '(') {
                return readsSum(nested) && readsRelation(nested);
            }
            if (nested >= NESTED_MOST) {
                return tape.fails();
            }
            tape.pass();
            if (sign == '(') {
                return readsCondition(nested + 1, false) && tape.takes(')');
            }
            if (!readsUnit(nested + 1)) {
                return false;
            }
            draft.add(-'!');
            return true;
        }

        private boolean readsRelation(int nested) {
            int sign = tape.peek();
            if (!isRelation(sign)) {
                return tape.fails();
            }
            tape.pass();
            if (!readsSum(nested)) {
                return false;
            }
            draft.add(-sign);
            return true;
        }

        private boolean readsSum(int nested) {
            if (!readsTerm(nested)) {
                return false;
            }
            for (int more = 0; more < TAPE_MOST; more++) {
                int sign = tape.peek();
                if (sign != '+' && sign != '-') {
                    return true;
                }
                tape.pass();
                if (!readsTerm(nested)) {
                    return false;
                }
                draft.add(-sign);
            }
            return tape.fails();
        }

        private boolean readsTerm(int nested) {
            if (!readsAtom(nested)) {
                return false;
            }
            for (int more = 0; more < TAPE_MOST; more++) {
                int sign = tape.peek();
                if (sign != '*' && sign != '/') {
                    return true;
                }
                tape.pass();
                if (!readsAtom(nested)) {
                    return false;
                }
                draft.add(-sign);
            }
            return tape.fails();
        }

        private boolean readsAtom(int nested) {
            int sign = tape.peek();
            if (isDigit(sign)) {
                int value = tape.takeNumber(LAW_DIGITS);
                draft.add(value);
                return value != NONE;
            }
            if (isLetter(sign)) {
                tape.pass();
                draft.add(-sign);
                return true;
            }
            if (sign != '[' || nested >= NESTED_MOST) {
                return tape.fails();
            }
            tape.pass();
            return readsSum(nested + 1) && tape.takes(']');
        }

        private static boolean isRelation(int sign) {
            return sign == '=' || sign == '<' || sign == '>';
        }

        private static boolean isLetter(int sign) {
            return sign == 'g' || sign == 'q' || sign == 't' || sign == 'n' || sign == 'd' || sign == 'y';
        }
    }

    /** The laws, and how long he stands by the one that holds. */
    private static final class LawBook {
        private final Law[] laws;
        private final int[] stack;
        private int number;
        private int holding;
        private int top;
        private int grievance;
        private int thankful;
        private int time;
        private int doors;
        private int way;
        private int year;

        LawBook() {
            laws = new Law[LAWS_MOST];
            for (int i = 0; i < LAWS_MOST; i++) {
                laws[i] = new Law();
            }
            stack = new int[STACK_ROOM];
            holding = NONE;
        }

        int number() {
            return number;
        }

        int holding() {
            return holding;
        }

        int add(Law draft) {
            Law law = lawAt(number);
            if (law == null) {
                return NONE;
            }
            law.copy(draft);
            number++;
            return number - 1;
        }

        boolean choose(int law) {
            if (law < NONE || law >= number) {
                return false;
            }
            holding = law;
            return true;
        }

        private Law lawAt(int i) {
            return i >= 0 && i < laws.length ? laws[i] : null;
        }

        int standing(int grievance, boolean isThankful, int time, int doors, int way, int year) {
            Law law = lawAt(holding);
            if (law == null) {
                return isThankful ? 1 : grievance / 2 + 1;
            }
            this.grievance = grievance;
            thankful = isThankful ? 1 : 0;
            this.time = time;
            this.doors = doors;
            this.way = way;
            this.year = year;
            return within(worthBy(law), 0, STAND_MOST);
        }

        private int worthBy(Law law) {
            boolean isPassedOver = false;
            top = 0;
            for (int i = 0; i < law.size(); i++) {
                int sign = law.signAt(i);
                if (isPassedOver) {
                    isPassedOver = sign != CLAUSE_END;
                } else if (sign == CLAUSE_END) {
                    return pop();
                } else if (sign == CLAUSE_IF) {
                    isPassedOver = pop() == 0;
                } else if (sign >= 0) {
                    push(sign);
                } else {
                    work(-sign);
                }
            }
            return 0;
        }

        private void work(int sign) {
            switch (sign) {
                case 'g':
                    push(grievance);
                    break;
                case 'q':
                    push(thankful);
                    break;
                case 't':
                    push(time);
                    break;
                case 'n':
                    push(doors);
                    break;
                case 'd':
                    push(way);
                    break;
                case 'y':
                    push(year);
                    break;
                case '!':
                    push(1 - pop());
                    break;
                default:
                    int right = pop();
                    int left = pop();
                    push(within(worked(sign, left, right), -NUMBER_MOST, NUMBER_MOST));
                    break;
            }
        }

        private static long worked(int sign, int left, int right) {
            switch (sign) {
                case '+':
                    return (long) left + right;
                case '-':
                    return (long) left - right;
                case '*':
                    return (long) left * right;
                case '/':
                    return right == 0 ? 0 : left / right;
                case '=':
                    return left == right ? 1 : 0;
                case '<':
                    return left < right ? 1 : 0;
                case '>':
                    return left > right ? 1 : 0;
                case '&':
                    return left & right;
                case '|':
                    return left | right;
                default:
                    return 0;
            }
        }

        private void push(int value) {
            if (top >= 0 && top < stack.length) {
                stack[top] = value;
                top++;
            }
        }

        private int pop() {
            if (top <= 0 || top > stack.length) {
                return 0;
            }
            top--;
            return stack[top];
        }
    }

    /** How it is at one moment: all that an act changes and an image keeps. */
    private static final class Day {
        private final int[] grievances;
        int coins;
        int time;
        int tired;
        int place;
        int was;
        int year;
        int eased;
        /** How many doors the LOG was ever told: its latest row stands ahead of this one. */
        int logged;

        Day() {
            grievances = new int[HOUSES_MOST];
            place = NONE;
        }

        void begin(Town town) {
            for (int house = 0; house < HOUSES_MOST; house++) {
                setGrievance(house, town.toldGrievance(house));
            }
            coins = town.toldCoins();
            year = 0;
            eased = 0;
            logged = 0;
            goHome();
        }

        void goHome() {
            place = NONE;
            time = 0;
            tired = 0;
            was = 0;
        }

        void copy(Day other) {
            System.arraycopy(other.grievances, 0, grievances, 0, HOUSES_MOST);
            coins = other.coins;
            time = other.time;
            tired = other.tired;
            place = other.place;
            was = other.was;
            year = other.year;
            eased = other.eased;
            logged = other.logged;
        }

        int grievanceOf(int house) {
            return cell(grievances, house);
        }

        void setGrievance(int house, int grievance) {
            setCell(grievances, house, grievance);
        }

        boolean wasAt(int house) {
            return hasBit(was, house);
        }

        int doors() {
            return Integer.bitCount(was);
        }

        int logLength() {
            return Math.min(LOG_MOST, logged);
        }
    }

    /** What was: the days ahead of the latest acts, the log, the image. */
    private static final class Past {
        private final Day[] days;
        private final int[] log;
        private final Day imageDay;
        private final int[] imageLog;
        private int kept;
        private int next;
        private boolean hasImage;

        Past() {
            days = new Day[UNDO_MOST];
            for (int i = 0; i < UNDO_MOST; i++) {
                days[i] = new Day();
            }
            log = new int[LOG_ROWS * LOG_COLUMNS];
            imageDay = new Day();
            imageLog = new int[LOG_ROWS * LOG_COLUMNS];
        }

        void forget() {
            kept = 0;
            next = 0;
            hasImage = false;
        }

        int kept() {
            return kept;
        }

        void keep(Day now) {
            Day day = dayAt(next);
            if (day != null) {
                day.copy(now);
            }
            next = next >= UNDO_MOST - 1 ? 0 : next + 1;
            kept = Math.min(UNDO_MOST, kept + 1);
        }

        boolean takeBack(Day now) {
            if (kept <= 0) {
                return false;
            }
            next = next <= 0 ? UNDO_MOST - 1 : next - 1;
            kept--;
            Day day = dayAt(next);
            if (day != null) {
                now.copy(day);
            }
            return true;
        }

        private Day dayAt(int i) {
            return i >= 0 && i < days.length ? days[i] : null;
        }

        void note(Day now, int house, int stays, int eased) {
            int first = rowStart(now.logged);
            setCell(log, first, house);
            setCell(log, first + 1, stays);
            setCell(log, first + 2, eased);
            setCell(log, first + 3, now.time);
            now.logged++;
        }

        int noted(Day now, int i, int what) {
            if (i < 0 || i >= now.logLength() || what < 0 || what >= LOG_COLUMNS) {
                return NONE;
            }
            return cell(log, rowStart(now.logged - 1 - i) + what);
        }

        private static int rowStart(int entry) {
            return Math.floorMod(entry, LOG_ROWS) * LOG_COLUMNS;
        }

        void draw(Day now) {
            imageDay.copy(now);
            System.arraycopy(log, 0, imageLog, 0, LOG_ROWS * LOG_COLUMNS);
            hasImage = true;
        }

        boolean bringBack(Day now) {
            if (!hasImage) {
                return false;
            }
            now.copy(imageDay);
            System.arraycopy(imageLog, 0, log, 0, LOG_ROWS * LOG_COLUMNS);
            kept = 0;
            return true;
        }
    }

    /** A litter that tries ways from how it is now, without changing it. */
    private static final class Litter {
        private final Town town;
        private final LawBook book;
        private final Day now;
        int place;
        int time;
        int tired;
        int was;
        int stoodThere;
        int easedThere;
        int bestRow;
        int bestCount;
        int bestEased;
        int bestTime;

        Litter(Town town, LawBook book, Day now) {
            this.town = town;
            this.book = book;
            this.now = now;
        }

        void setOut() {
            stay(now.place, now.time, now.tired, now.was);
        }

        private void stay(int place, int time, int tired, int was) {
            this.place = place;
            this.time = time;
            this.tired = tired;
            this.was = was;
        }

        /** False, with nothing changed, if he can't be carried there from here. */
        boolean comesTo(int house) {
            if (!town.isHouse(house) || house == place || hasBit(was, house)) {
                return false;
            }
            int way = town.distance(place, house);
            int grievance = now.grievanceOf(house);
            boolean isThankful = town.isThankful(house);
            int stays = book.standing(grievance, isThankful, time + way, Integer.bitCount(was), way, now.year);
            if (time + way + stays > town.timeThereIs() || tired + way > town.strength()) {
                return false;
            }
            stay(house, time + way + stays, tired + way, was | 1 << house);
            stoodThere = stays;
            easedThere = isThankful ? 0 : Math.min(grievance, stays);
            return true;
        }

        void findRoute() {
            setOut();
            bestRow = 0;
            bestCount = 0;
            bestEased = 0;
            bestTime = now.time;
            goOn(0, 0, 0);
        }

        private void goOn(int count, int soFar, int eased) {
            if (count >= HOUSES_MOST || isHopeless(count, eased)) {
                return;
            }
            int herePlace = place;
            int hereTime = time;
            int hereTired = tired;
            int hereWas = was;
            for (int house = 0; house < town.houses(); house++) {
                if (comesTo(house)) {
                    int easedThen = eased + easedThere;
                    consider(count + 1, soFar * 10 + house, easedThen);
                    goOn(count + 1, soFar * 10 + house, easedThen);
                    stay(herePlace, hereTime, hereTired, hereWas);
                }
            }
        }

        // Rows come with the least first among those of one length, so only a better one counts.
        private void consider(int count, int soFar, int eased) {
            if (eased > bestEased || eased == bestEased && count < bestCount) {
                bestRow = soFar;
                bestCount = count;
                bestEased = eased;
                bestTime = time;
            }
        }

        // Seven houses have 13,699 rows: those that can't become better need no look.
        private boolean isHopeless(int count, int eased) {
            int atMost = eased;
            for (int house = 0; house < town.houses(); house++) {
                if (!hasBit(was, house) && !town.isThankful(house)) {
                    atMost += now.grievanceOf(house);
                }
            }
            return atMost < bestEased || atMost == bestEased && count + 1 >= bestCount;
        }
    }

    /** What was told of how long he stood, and of the order that was seen. */
    private static final class Witness {
        private static final int COLUMNS = 3;
        private final int[] stood;
        private final int[] seen;
        private int stoods;
        private int seens;

        Witness() {
            stood = new int[TOLD_MOST * COLUMNS];
            seen = new int[TOLD_MOST * COLUMNS];
        }

        void forget() {
            stoods = 0;
            seens = 0;
        }

        int tellStood(int house, int time, int stays) {
            if (stoods >= TOLD_MOST) {
                return NONE;
            }
            tell(stood, stoods, house, time, stays);
            stoods++;
            return stoods;
        }

        int tellSeen(int place, int house, boolean is) {
            if (seens >= TOLD_MOST) {
                return NONE;
            }
            tell(seen, seens, place, house, is ? 1 : 0);
            seens++;
            return seens;
        }

        private static void tell(int[] rows, int i, int first, int second, int third) {
            setCell(rows, i * COLUMNS, first);
            setCell(rows, i * COLUMNS + 1, second);
            setCell(rows, i * COLUMNS + 2, third);
        }

        int stoods() {
            return stoods;
        }

        int stoodHouse(int i) {
            return cell(stood, i * COLUMNS);
        }

        int stoodTime(int i) {
            return cell(stood, i * COLUMNS + 1);
        }

        int stoodLong(int i) {
            return cell(stood, i * COLUMNS + 2);
        }

        int seens() {
            return seens;
        }

        int seenPlace(int i) {
            return cell(seen, i * COLUMNS);
        }

        int seenHouse(int i) {
            return cell(seen, i * COLUMNS + 1);
        }

        boolean seenIs(int i) {
            return cell(seen, i * COLUMNS + 2) == 1;
        }
    }

    /** Houses that have a grievance, the least first. */
    private static final class Row {
        private final int[] houses;
        private final int[] grievances;
        private int size;

        Row() {
            houses = new int[HOUSES_MOST];
            grievances = new int[HOUSES_MOST];
        }

        void clear() {
            size = 0;
        }

        void put(int house, int grievance) {
            if (grievance <= 0 || size >= HOUSES_MOST) {
                return;
            }
            int spot = size;
            for (; spot > 0 && cell(grievances, spot - 1) > grievance; spot--) {
                setCell(houses, spot, cell(houses, spot - 1));
                setCell(grievances, spot, cell(grievances, spot - 1));
            }
            setCell(houses, spot, house);
            setCell(grievances, spot, grievance);
            size++;
        }

        int size() {
            return size;
        }

        int houseAt(int i) {
            return i >= 0 && i < size ? cell(houses, i) : NONE;
        }

        int digits() {
            int digits = 0;
            for (int i = 0; i < size; i++) {
                digits = digits * 10 + houseAt(i);
            }
            return digits;
        }
    }
}
