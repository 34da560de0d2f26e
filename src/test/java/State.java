import java.util.ArrayList;
import java.util.List;

/** What can be asked of an object without changing it, in one row of answers; STATUS apart. */
final class State {
    private State() {
    }

    static List<Long> of(SaintCarried x) {
        List<Long> all = new ArrayList<>();
        counts(x, all);
        for (int what = 0; what <= 3; what++) {
            all.add((long) x.rule(what));
        }
        for (int house = 0; house < x.count(0); house++) {
            for (int what = 0; what <= 4; what++) {
                all.add((long) Check.house(x, house, what));
            }
            all.add((long) x.stands(house));
            all.add((long) x.fits(house, -1));
            all.add((long) x.fits(house, 0));
        }
        for (int bearer = 0; bearer < x.count(1); bearer++) {
            all.add((long) x.bearer(bearer));
        }
        for (int what = 0; what <= 7; what++) {
            all.add((long) x.most(what));
        }
        all.add((long) x.route(0));
        all.add((long) x.order(0));
        all.add((long) x.who(9, -1));
        all.add((long) x.who(9, 0));
        all.add((long) x.fault(0));
        all.add((long) x.fault(1));
        return all;
    }

    static void counts(SaintCarried x, List<Long> all) {
        for (int what = 0; what <= 15; what++) {
            all.add((long) x.count(what));
        }
        for (int what = 0; what <= 3; what++) {
            all.add((long) x.log(0, what));
            all.add((long) x.log(1, what));
            all.add((long) x.log(59, what));
        }
    }

    /** What ACTS change. */
    static List<Long> now(SaintCarried x) {
        List<Long> all = new ArrayList<>();
        counts(x, all);
        all.add((long) x.rule(1));
        all.add((long) x.most(6));
        for (int house = 0; house < x.count(0); house++) {
            all.add((long) Check.house(x, house, 2));
            all.add((long) Check.house(x, house, 4));
        }
        return all;
    }
}
