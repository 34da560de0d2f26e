import java.util.ArrayList;
import java.util.Comparator;
import java.util.List;

/**
 * The document told a second time, as plainly as lists, texts and copies allow, to be compared with the program:
 * faults by a machine of states instead of descent, laws worked from their text, every row tried, every act a copy.
 */
final class Model {
    static final int NONE = -1;
    static final int HIDDEN = -1000000;

    static final class House {
        int x, y, told = 5;
        boolean thankful;
    }

    static final class Now implements Cloneable {
        int[] g = new int[0];
        int coins, time, tired, place = NONE, year, eased;
        List<Integer> was = new ArrayList<>();
        List<int[]> log = new ArrayList<>();

        Now copy() {
            Now other = new Now();
            other.g = g.clone();
            other.coins = coins;
            other.time = time;
            other.tired = tired;
            other.place = place;
            other.year = year;
            other.eased = eased;
            other.was = new ArrayList<>(was);
            other.log = new ArrayList<>(log);
            return other;
        }
    }

    String tape = "";
    List<House> houses = new ArrayList<>();
    List<Integer> bearers = new ArrayList<>();
    int time, coins, growth;
    List<String> laws = new ArrayList<>();
    int holds = NONE;
    Now now = new Now();
    List<Now> acts = new ArrayList<>();
    Now image;
    int faith = 7;
    int[] status = new int[5];
    List<int[]> stoods = new ArrayList<>();
    List<int[]> seens = new ArrayList<>();

    // ---- texts ----

    int feed(int a, int b, int c, int d, int e) {
        StringBuilder more = new StringBuilder();
        for (int number : new int[] {a, b, c, d, e}) {
            for (int i = 3; i >= 0; i--) {
                int sign = (number >>> (8 * i)) % 256;
                sign = sign < 0 ? sign + 256 : sign;
                if (sign > 0) {
                    more.append((char) sign);
                }
            }
        }
        if (tape.length() + more.length() > 240) {
            return NONE;
        }
        tape += more;
        return tape.length();
    }

    boolean end(int n) {
        if (n < 0 || n > tape.length()) {
            return false;
        }
        tape = tape.substring(0, n);
        return true;
    }

    int fault(int sort) {
        return sort == 0 ? townFault(tape) : sort == 1 ? lawFault(tape) : -2;
    }

    static int bound(String kindAndLetter, boolean most) {
        switch (kindAndLetter) {
            case "st": return most ? 99 : 1;
            case "sc": return most ? 99 : 0;
            case "se": return most ? 9 : 0;
            case "hx": case "hy": return most ? 9 : 0;
            case "hg": return most ? 30 : 0;
            case "hq": return most ? 1 : 0;
            case "bs": return most ? 40 : 1;
            default: return NONE;
        }
    }

    static int townFault(String text) {
        int s = 0, h = 0, b = 0;
        String kind = "";
        String given = "";
        char letter = 0;
        String state = "clause";
        for (int i = 0; i < text.length(); i++) {
            char c = text.charAt(i);
            if (c == ' ') {
                continue;
            }
            if (state.equals("clause")) {
                kind = "" + c;
                s += c == 's' ? 1 : 0;
                h += c == 'h' ? 1 : 0;
                b += c == 'b' ? 1 : 0;
                if ("shb".indexOf(c) < 0 || s > 1 || h > 7 || b > 5) {
                    return i;
                }
                given = "";
                state = "item";
            } else if (state.equals("item")) {
                if (c == ';') {
                    state = "clause";
                } else if (bound(kind + c, false) == NONE || given.indexOf(c) >= 0) {
                    return i;
                } else {
                    letter = c;
                    given += c;
                    state = "number";
                }
            } else {
                int last = i;
                while (last < text.length() && Character.isDigit(text.charAt(last)) && text.charAt(last) < 128) {
                    last++;
                }
                if (last == i) {
                    return i;
                }
                if (last - i > 2) {
                    return i + 2;
                }
                int value = Integer.parseInt(text.substring(i, last));
                if (value < bound(kind + letter, false) || value > bound(kind + letter, true)) {
                    return last - 1;
                }
                i = last - 1;
                state = "item";
            }
        }
        if (!state.equals("item") || h < 2 || b < 1) {
            return text.length();
        }
        List<House> all = housesOf(text);
        for (House one : all) {
            for (House other : all) {
                if (one != other && one.x == other.x && one.y == other.y) {
                    return text.length();
                }
            }
        }
        return NONE;
    }

    static int item(String clause, char letter, int usual) {
        int at = clause.indexOf(letter, 1);
        if (at < 0) {
            return usual;
        }
        String digits = "";
        for (int i = at + 1; i < clause.length() && Character.isDigit(clause.charAt(i)); i++) {
            digits += clause.charAt(i);
        }
        return Integer.parseInt(digits);
    }

    static List<House> housesOf(String text) {
        List<House> all = new ArrayList<>();
        for (String clause : text.replace(" ", "").split(";")) {
            if (clause.charAt(0) == 'h') {
                House house = new House();
                house.x = item(clause, 'x', 0);
                house.y = item(clause, 'y', 0);
                house.told = item(clause, 'g', 5);
                house.thankful = item(clause, 'q', 0) == 1;
                all.add(house);
            }
        }
        return all;
    }

    /** One level of a law's text: '^' the clause itself, '(' or '['; what of it has been read. */
    static final class Level {
        final char sort;
        int nots;
        boolean isUnitStart = true;
        boolean hasRelation;
        boolean isClosed;
        boolean isFinal;
        boolean isSurelyCondition;

        Level(char sort) {
            this.sort = sort;
        }

        void nextUnit() {
            nots = 0;
            isUnitStart = true;
            hasRelation = false;
            isClosed = false;
            isSurelyCondition = true;
        }
    }

    static int lawFault(String text) {
        String state = "y";
        List<Level> levels = new ArrayList<>();
        for (int i = 0; i < text.length(); i++) {
            char c = text.charAt(i);
            if (c == ' ') {
                continue;
            }
            if (state.equals("y")) {
                if (c != 'y') {
                    return i;
                }
                state = ":";
                continue;
            }
            if (state.equals(":")) {
                if (c != ':') {
                    return i;
                }
                state = "operand";
                levels.clear();
                levels.add(new Level('^'));
                continue;
            }
            Level level = levels.get(levels.size() - 1);
            int open = levels.size() - 1;
            for (Level each : levels) {
                open += each.nots;
            }
            if (state.equals("operand")) {
                boolean mayBeUnit = level.isUnitStart && !level.isFinal && level.sort != '[';
                if (c >= '0' && c <= '9') {
                    int last = i;
                    while (last < text.length() && text.charAt(last) >= '0' && text.charAt(last) <= '9') {
                        last++;
                    }
                    if (last - i > 4) {
                        return i + 4;
                    }
                    i = last - 1;
                    state = "behind";
                } else if ("gqtndy".indexOf(c) >= 0) {
                    state = "behind";
                } else if (c == '[' && open < 6) {
                    level.isUnitStart = false;
                    levels.add(new Level('['));
                    continue;
                } else if (c == '!' && mayBeUnit && open < 6) {
                    level.nots++;
                    level.isSurelyCondition = true;
                    continue;
                } else if (c == '(' && mayBeUnit && open < 6) {
                    level.isSurelyCondition = true;
                    Level inner = new Level('(');
                    inner.isSurelyCondition = true;
                    levels.add(inner);
                    continue;
                } else {
                    return i;
                }
                level.isUnitStart = false;
                continue;
            }
            boolean isUnitWhole = level.sort != '[' && !level.isFinal && (level.hasRelation || level.isClosed);
            if ("+-*/".indexOf(c) >= 0 && !level.isClosed) {
                state = "operand";
            } else if ("=<>".indexOf(c) >= 0 && level.sort != '[' && !level.isFinal && !level.hasRelation && !level.isClosed) {
                level.hasRelation = true;
                level.isSurelyCondition = true;
                state = "operand";
            } else if ((c == '&' || c == '|') && isUnitWhole) {
                level.nextUnit();
                state = "operand";
            } else if (c == ')' && level.sort == '(' && isUnitWhole) {
                levels.remove(levels.size() - 1);
                levels.get(levels.size() - 1).isClosed = true;
            } else if (c == ']' && level.sort == '[') {
                levels.remove(levels.size() - 1);
            } else if (c == '?' && level.sort == '^' && isUnitWhole) {
                level.nots = 0;
                level.isFinal = true;
                level.isClosed = false;
                state = "operand";
            } else if (c == ';' && level.sort == '^' && (level.isFinal || !level.isSurelyCondition)) {
                state = "y";
            } else {
                return i;
            }
        }
        if (!state.equals("behind") || levels.size() != 1 || !levels.get(0).isFinal && levels.get(0).isSurelyCondition) {
            return text.length();
        }
        return NONE;
    }

    int text(int sort) {
        if (fault(sort) != NONE || sort == 1 && laws.size() == 4) {
            return NONE;
        }
        if (sort == 1) {
            laws.add(tape.replace(" ", ""));
            tape = "";
            return laws.size() - 1;
        }
        houses = housesOf(tape);
        bearers = new ArrayList<>();
        time = 60;
        coins = 20;
        growth = 2;
        for (String clause : tape.replace(" ", "").split(";")) {
            if (clause.charAt(0) == 'b') {
                bearers.add(item(clause, 's', 20));
            } else if (clause.charAt(0) == 's') {
                time = item(clause, 't', 60);
                coins = item(clause, 'c', 20);
                growth = item(clause, 'e', 2);
            }
        }
        tape = "";
        now = new Now();
        now.g = new int[houses.size()];
        for (int i = 0; i < houses.size(); i++) {
            now.g[i] = houses.get(i).told;
        }
        now.coins = coins;
        acts = new ArrayList<>();
        image = null;
        stoods = new ArrayList<>();
        seens = new ArrayList<>();
        return houses.size();
    }

    // ---- laws worked from their text ----

    static long held(long number) {
        return Math.max(-1000000, Math.min(1000000, number));
    }

    /** The last place outside brackets where one of the signs stands; -1 if none does. */
    static int lastOf(String text, String signs) {
        int depth = 0;
        for (int i = text.length() - 1; i >= 0; i--) {
            char c = text.charAt(i);
            depth += c == ')' || c == ']' ? 1 : c == '(' || c == '[' ? -1 : 0;
            if (depth == 0 && signs.indexOf(c) >= 0) {
                return i;
            }
        }
        return -1;
    }

    static long sum(String text, int[] letters) {
        int at = lastOf(text, "+-");
        if (at < 0) {
            at = lastOf(text, "*/");
        }
        if (at >= 0) {
            long left = sum(text.substring(0, at), letters);
            long right = sum(text.substring(at + 1), letters);
            switch (text.charAt(at)) {
                case '+': return held(left + right);
                case '-': return held(left - right);
                case '*': return held(left * right);
                default: return right == 0 ? 0 : left / right;
            }
        }
        if (text.charAt(0) == '[') {
            return sum(text.substring(1, text.length() - 1), letters);
        }
        int letter = "gqtndy".indexOf(text.charAt(0));
        return letter >= 0 ? letters[letter] : Integer.parseInt(text);
    }

    static boolean holds(String text, int[] letters) {
        int at = lastOf(text, "|");
        if (at >= 0) {
            return holds(text.substring(0, at), letters) || holds(text.substring(at + 1), letters);
        }
        at = lastOf(text, "&");
        if (at >= 0) {
            return holds(text.substring(0, at), letters) && holds(text.substring(at + 1), letters);
        }
        if (text.charAt(0) == '!') {
            return !holds(text.substring(1), letters);
        }
        if (text.charAt(0) == '(') {
            return holds(text.substring(1, text.length() - 1), letters);
        }
        at = lastOf(text, "=<>");
        long left = sum(text.substring(0, at), letters);
        long right = sum(text.substring(at + 1), letters);
        return text.charAt(at) == '=' ? left == right : text.charAt(at) == '<' ? left < right : left > right;
    }

    static long worth(String law, int[] letters) {
        for (String clause : law.split(";")) {
            String body = clause.substring(2);
            int at = body.indexOf('?');
            if (at < 0 || holds(body.substring(0, at), letters)) {
                return sum(body.substring(at + 1), letters);
            }
        }
        return 0;
    }

    int standing(int house, int g, int comes, int doors, int way) {
        boolean thankful = houses.get(house).thankful;
        if (holds == NONE) {
            return thankful ? 1 : g / 2 + 1;
        }
        int[] letters = {g, thankful ? 1 : 0, comes, doors, way, now.year};
        return (int) Math.max(0, Math.min(60, worth(laws.get(holds), letters)));
    }

    // ---- what is asked of places ----

    boolean isTold() {
        return !houses.isEmpty();
    }

    boolean isHouse(int house) {
        return house >= 0 && house < houses.size();
    }

    int x(int place) {
        return place == NONE ? 0 : houses.get(place).x;
    }

    int y(int place) {
        return place == NONE ? 0 : houses.get(place).y;
    }

    int way(int one, int other) {
        return Math.abs(x(one) - x(other)) + Math.abs(y(one) - y(other));
    }

    int strength() {
        int all = 0;
        for (int one : bearers) {
            all += one;
        }
        return all;
    }

    int rule(int what) {
        if (!isTold() || what < 0 || what > 3) {
            return NONE;
        }
        return new int[] {time, now.coins, growth, strength()}[what];
    }

    /** HIDDEN stands for the exception. */
    int house(int house, int what) {
        if (!isHouse(house) || what < 0 || what > 4) {
            return HIDDEN;
        }
        return new int[] {x(house), y(house), now.g[house], houses.get(house).thankful ? 1 : 0,
            now.was.contains(house) ? 1 : 0}[what];
    }

    int bearer(int bearer) {
        return bearer < 0 || bearer >= bearers.size() ? NONE : bearers.get(bearer);
    }

    boolean law(int law) {
        if (law < -1 || law >= laws.size()) {
            return false;
        }
        holds = law;
        return true;
    }

    int steps(int one, int other) {
        if (!isHouse(other) || one != NONE && !isHouse(one)) {
            return NONE;
        }
        return way(one == NONE ? now.place : one, other);
    }

    int standsWith(int house, int g) {
        int way = way(now.place, house);
        return standing(house, g, now.time + way, now.was.size(), way);
    }

    int stands(int house) {
        return isHouse(house) ? standsWith(house, now.g[house]) : NONE;
    }

    // ---- acts ----

    /** How it is behind a door; null, if it can't be. */
    Now behind(Now from, int house) {
        if (from.was.contains(house) || from.place == house) {
            return null;
        }
        int way = way(from.place, house);
        int stays = standing(house, from.g[house], from.time + way, from.was.size(), way);
        if (from.time + way + stays > time || from.tired + way > strength()) {
            return null;
        }
        Now then = from.copy();
        int eased = houses.get(house).thankful ? 0 : Math.min(stays, from.g[house]);
        then.time += way + stays;
        then.tired += way;
        then.place = house;
        then.was.add(house);
        then.g[house] -= eased;
        then.eased += eased;
        then.log.add(new int[] {house, stays, eased, then.time});
        if (then.log.size() > 60) {
            then.log.remove(0);
        }
        return then;
    }

    int refused(int sort) {
        status[sort]++;
        return NONE;
    }

    void act(Now then) {
        acts.add(now);
        if (acts.size() > 40) {
            acts.remove(0);
        }
        now = then;
    }

    int carry(int house) {
        if (!isHouse(house)) {
            return refused(0);
        }
        if (now.place == house || now.was.contains(house)) {
            return refused(2);
        }
        Now then = behind(now, house);
        if (then == null) {
            return refused(4);
        }
        act(then);
        return then.log.get(then.log.size() - 1)[2];
    }

    int rest() {
        if (!isTold()) {
            return refused(0);
        }
        if (now.tired == 0) {
            return refused(2);
        }
        if (now.time + 5 > time) {
            return refused(4);
        }
        Now then = now.copy();
        then.time += 5;
        then.tired = Math.max(0, then.tired - 10);
        act(then);
        return then.tired;
    }

    int gift(int house, int n) {
        if (!isHouse(house)) {
            return refused(0);
        }
        if (n < 1 || n > 30 || n > now.g[house]) {
            return refused(1);
        }
        if (n > now.coins) {
            return refused(3);
        }
        Now then = now.copy();
        then.coins -= n;
        then.g[house] -= n;
        act(then);
        return then.g[house];
    }

    int give(int n) {
        if (!isTold()) {
            return refused(0);
        }
        if (n < 1 || n > 50 || now.coins + n > 999) {
            return refused(1);
        }
        Now then = now.copy();
        then.coins += n;
        act(then);
        return then.coins;
    }

    Now nextYear(Now from) {
        Now then = from.copy();
        then.year++;
        then.time = 0;
        then.tired = 0;
        then.place = NONE;
        then.was.clear();
        for (int i = 0; i < houses.size(); i++) {
            if (!houses.get(i).thankful) {
                then.g[i] = Math.min(30, then.g[i] + growth);
            }
        }
        return then;
    }

    int year() {
        if (!isTold()) {
            return refused(0);
        }
        if (now.year == 999) {
            return refused(4);
        }
        act(nextYear(now));
        return now.year;
    }

    boolean faith(int v) {
        if (v < 0 || v > 9 || v == faith) {
            return false;
        }
        faith = v;
        return true;
    }

    int decades(int n, long seed) {
        if (!isTold() || n < 1 || n > 60) {
            return NONE;
        }
        long x = seed;
        int doors = 0;
        for (int i = 0; i < n; i++) {
            x = x * 6364136223846793005L + 1442695040888963407L;
            Now then = now.copy();
            if ((x >>> 33) % 10 < faith) {
                x = x * 6364136223846793005L + 1442695040888963407L;
                Now carried = behind(now, (int) ((x >>> 33) % houses.size()));
                if (carried != null) {
                    then = carried;
                    doors++;
                }
            } else if (now.year < 999) {
                then = nextYear(now);
            }
            act(then);
        }
        return doors;
    }

    int status(int what) {
        return what < 0 || what > 4 ? NONE : status[what];
    }

    int undo() {
        if (acts.isEmpty()) {
            return NONE;
        }
        now = acts.remove(acts.size() - 1);
        return acts.size();
    }

    int log(int i, int what) {
        if (i < 0 || i >= now.log.size() || what < 0 || what > 3) {
            return NONE;
        }
        return now.log.get(now.log.size() - 1 - i)[what];
    }

    // ---- what is asked apart ----

    static int digits(List<Integer> row) {
        int digits = 0;
        for (int one : row) {
            digits = digits * 10 + one;
        }
        return digits;
    }

    List<int[]> rows;

    void allRows(Now from, List<Integer> row, int eased) {
        rows.add(new int[] {eased, row.size(), digits(row), from.time});
        for (int house = 0; house < houses.size(); house++) {
            Now then = behind(from, house);
            if (then != null) {
                List<Integer> longer = new ArrayList<>(row);
                longer.add(house);
                allRows(then, longer, eased + then.eased - from.eased);
            }
        }
    }

    int route(int what) {
        if (!isTold() || what < 0 || what > 2) {
            return NONE;
        }
        rows = new ArrayList<>();
        allRows(now, new ArrayList<>(), 0);
        int[] best = rows.get(0);
        for (int[] row : rows) {
            boolean better = row[0] != best[0] ? row[0] > best[0] : row[1] != best[1] ? row[1] < best[1] : row[2] < best[2];
            if (better) {
                best = row;
            }
        }
        return what == 0 ? best[1] == 0 ? NONE : best[2] : what == 1 ? best[0] : best[3];
    }

    List<Integer> orderBy(int[] g, List<Integer> without) {
        List<Integer> row = new ArrayList<>();
        for (int i = 0; i < g.length; i++) {
            if (g[i] > 0 && !without.contains(i)) {
                row.add(i);
            }
        }
        row.sort(Comparator.comparingInt(i -> g[i] * 10 + i));
        return row;
    }

    int order(int what) {
        if (!isTold() || what < 0 || what > 1) {
            return NONE;
        }
        List<Integer> row = orderBy(now.g, now.was);
        if (what == 0) {
            return row.isEmpty() ? NONE : digits(row);
        }
        int could = 0;
        Now then = now;
        for (int house : row) {
            then = behind(then, house);
            if (then == null) {
                break;
            }
            could++;
        }
        return could;
    }

    int shorter(int house, int m) {
        if (!isHouse(house) || m < 0 || m > 60) {
            return NONE;
        }
        int best = NONE;
        for (int gift = now.g[house]; gift >= 0; gift--) {
            best = standsWith(house, now.g[house] - gift) <= m ? gift : best;
        }
        return best;
    }

    int roster(int n) {
        if (!isTold() || n < 1 || n > 200) {
            return NONE;
        }
        for (int few = 1; few <= bearers.size(); few++) {
            for (int bits = 0; bits < 1 << bearers.size(); bits++) {
                int all = 0;
                for (int i = 0; i < bearers.size(); i++) {
                    all += (bits & 1 << i) != 0 ? bearers.get(i) : 0;
                }
                if (Integer.bitCount(bits) == few && all >= n) {
                    return bits;
                }
            }
        }
        return NONE;
    }

    int stood(int house, int when, int m) {
        if (!isHouse(house) || when < 0 || when > 99 || m < 0 || m > 60 || stoods.size() == 10) {
            return NONE;
        }
        stoods.add(new int[] {house, when, m});
        return stoods.size();
    }

    int first(int house, int g, int when) {
        return standing(house, g, when, 0, way(NONE, house));
    }

    List<Integer> fitting(int house) {
        List<Integer> all = new ArrayList<>();
        for (int g = 0; g <= 30; g++) {
            boolean fits = true;
            for (int[] one : stoods) {
                fits &= one[0] != house || first(house, g, one[1]) == one[2];
            }
            if (fits) {
                all.add(g);
            }
        }
        return all;
    }

    static int pick(List<Integer> all, int i) {
        return i == NONE ? all.size() : i < 0 || i >= all.size() ? NONE : all.get(i);
    }

    int fits(int house, int i) {
        return isHouse(house) ? pick(fitting(house), i) : NONE;
    }

    int ask(int when) {
        if (!isTold() || when < 0 || when > 99) {
            return NONE;
        }
        int best = NONE;
        int bestGreatest = 1000;
        for (int house = 0; house < houses.size(); house++) {
            int greatest = 0;
            for (int one : fitting(house)) {
                int alike = 0;
                for (int other : fitting(house)) {
                    alike += first(house, one, when) == first(house, other, when) ? 1 : 0;
                }
                greatest = Math.max(greatest, alike);
            }
            if (greatest > 0 && greatest < bestGreatest) {
                best = house;
                bestGreatest = greatest;
            }
        }
        return best;
    }

    int has(int house, int own, int others) {
        int stays = standsWith(house, Math.min(30, now.g[house] + own));
        return stays - (others > own ? 4 : 0) - own / 2;
    }

    int game(int one, int other, int x, int y, int what) {
        if (!isHouse(one) || !isHouse(other) || one == other || x < 0 || x > 9 || y < 0 || y > 9 || what < 0 || what > 1) {
            return HIDDEN;
        }
        return what == 0 ? has(one, x, y) : has(other, y, x);
    }

    int rests(int one, int other, int i) {
        if (!isHouse(one) || !isHouse(other) || one == other) {
            return NONE;
        }
        List<Integer> all = new ArrayList<>();
        for (int x = 0; x <= 9; x++) {
            for (int y = 0; y <= 9; y++) {
                boolean rests = true;
                for (int claim = 0; claim <= 9; claim++) {
                    rests &= has(one, claim, y) <= has(one, x, y) && has(other, claim, x) <= has(other, y, x);
                }
                if (rests) {
                    all.add(10 * x + y);
                }
            }
        }
        return pick(all, i);
    }

    int rival(int house) {
        if (!isHouse(house) || now.g[house] > 0) {
            return NONE;
        }
        int when = 0;
        int last = NONE;
        for (int next = 0; next <= house; next++) {
            if (now.g[next] == 0) {
                when += (last == NONE ? 0 : 2) + way(last, next);
                last = next;
            }
        }
        return when;
    }

    int meets(int house) {
        if (!isHouse(house)) {
            return NONE;
        }
        int it = rival(house);
        int he = now.time + way(now.place, house);
        for (int when = he; it != NONE && when < he + Math.max(1, stands(house)); when++) {
            if (when == it || when == it + 1) {
                return 1;
            }
        }
        return 0;
    }

    int seen(int i, int house, boolean is) {
        if (!isHouse(house) || i < 0 || i > 6 || seens.size() == 10) {
            return NONE;
        }
        seens.add(new int[] {i, house, is ? 1 : 0});
        return seens.size();
    }

    int who(int g, int i) {
        if (!isTold() || g < 1 || g > 9) {
            return NONE;
        }
        List<Integer> all = new ArrayList<>();
        for (int had = 0; had <= 9; had++) {
            if (had >= houses.size() && had != 9) {
                continue;
            }
            int[] told = new int[houses.size()];
            for (int house = 0; house < told.length; house++) {
                told[house] = Math.min(30, houses.get(house).told + (house == had ? g : 0));
            }
            List<Integer> row = orderBy(told, List.of());
            boolean so = true;
            for (int[] one : seens) {
                boolean was = one[0] < row.size() && row.get(one[0]) == one[1];
                so &= was == (one[2] == 1);
            }
            if (so) {
                all.add(had);
            }
        }
        return pick(all, i);
    }

    int odds(int k, int chance) {
        if (!isTold() || k < 0 || k > 7 || chance < 0 || chance > 100) {
            return NONE;
        }
        List<Integer> row = orderBy(now.g, now.was);
        if (k > row.size()) {
            return 0;
        }
        List<long[]> parts = new ArrayList<>();
        parts.add(new long[] {now.time, 1000000000L});
        for (int i = 0; i < k; i++) {
            int house = row.get(i);
            int way = way(i == 0 ? now.place : row.get(i - 1), house);
            List<long[]> next = new ArrayList<>();
            for (long[] part : parts) {
                long rain = part[1] * chance / 100;
                long[][] both = {{part[0] + way + way / 2, rain}, {part[0] + way, part[1] - rain}};
                for (long[] one : both) {
                    one[0] += standing(house, now.g[house], (int) one[0], now.was.size() + i, way);
                    if (one[0] <= time) {
                        next.add(one);
                    }
                }
            }
            parts = next;
        }
        long all = 0;
        for (long[] part : parts) {
            all += part[1];
        }
        return (int) all;
    }

    int total(int[] g) {
        int all = 0;
        for (int one : g) {
            all += one;
        }
        return all;
    }

    int shares(int house, int c) {
        if (!isHouse(house) || c < 0 || c > 999) {
            return NONE;
        }
        return total(now.g) == 0 ? 0 : c * now.g[house] / total(now.g);
    }

    int most(int what) {
        if (!isTold() || what < 0 || what > 7) {
            return NONE;
        }
        int hardest = 0, nearest = NONE, farthest = 0, content = 0, was = 0;
        for (int house = houses.size() - 1; house >= 0; house--) {
            hardest = house == houses.size() - 1 || now.g[house] >= now.g[hardest] ? house : hardest;
            farthest = house == houses.size() - 1 || way(NONE, house) >= way(NONE, farthest) ? house : farthest;
            if (house != now.place && (nearest == NONE || way(now.place, house) <= way(now.place, nearest))) {
                nearest = house;
            }
            content += now.g[house] == 0 ? 1 << house : 0;
            was += now.was.contains(house) ? 1 << house : 0;
        }
        return new int[] {hardest, nearest, farthest, content, time - now.time, strength() - now.tired, was,
            way(now.place, NONE)}[what];
    }

    int years(int n) {
        if (!isTold() || n < 1 || n > 200) {
            return NONE;
        }
        Now then = now;
        for (int behind = 0; behind <= 60; behind++) {
            if (total(then.g) >= n) {
                return behind;
            }
            then = nextYear(then);
        }
        return NONE;
    }

    int waits(int n) {
        if (!isTold() || n < 0 || n > 60) {
            return NONE;
        }
        int bits = 0;
        for (int house = 0; house < houses.size(); house++) {
            bits += !now.was.contains(house) && stands(house) >= n ? 1 << house : 0;
        }
        return bits;
    }

    int remains(int house) {
        return isHouse(house) ? time - (now.time + way(now.place, house) + stands(house)) : HIDDEN;
    }

    int image() {
        if (!isTold()) {
            return NONE;
        }
        image = now.copy();
        return now.year;
    }

    int back() {
        if (image == null) {
            return NONE;
        }
        now = image.copy();
        acts.clear();
        return now.year;
    }

    int count(int what) {
        if (what < 0 || what > 15) {
            return HIDDEN;
        }
        return new int[] {houses.size(), bearers.size(), laws.size(), tape.length(), holds, now.year, now.time, now.place,
            now.was.size(), now.tired, now.eased, faith, stoods.size(), seens.size(), now.log.size(), acts.size()}[what];
    }
}
