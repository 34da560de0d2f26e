import java.util.ArrayList;
import java.util.List;

/** Runs of calls, drawn by numbers that are always the same, on the program and on the Model of the document. */
final class ModelTests {
    private static final int CALLS = 500;
    private static final String SIGNS = "shbtcexygq;0123456789 ynd:?!()[]&|=<>+-*/";

    private long x;
    private SaintCarried program;
    private Model model;
    private List<String> told;

    private ModelTests(long seed) {
        x = seed;
    }

    static void runAll(int runs, long from) {
        for (int run = 0; run < runs; run++) {
            new ModelTests(from + run).run(run);
        }
        for (int run = 0; run < runs * 100; run++) {
            new ModelTests(from + run * 7919L).compareFault(run);
        }
    }

    private int below(int j) {
        x = x * 6364136223846793005L + 1442695040888963407L;
        return (int) ((x >>> 35) % j);
    }

    private String oneOf(String... texts) {
        return texts[below(texts.length)];
    }

    private String blanks(String text) {
        if (below(6) > 0) {
            return text;
        }
        StringBuilder wide = new StringBuilder();
        for (int i = 0; i < text.length(); i++) {
            boolean isInNumber = i > 0 && Character.isDigit(text.charAt(i)) && Character.isDigit(text.charAt(i - 1));
            wide.append(!isInNumber && below(4) == 0 ? " " : "").append(text.charAt(i));
        }
        return wide.append(below(3) == 0 ? " " : "").toString();
    }

    private String townText() {
        List<String> clauses = new ArrayList<>();
        int near = below(3) == 0 ? 9 : 4;
        int houses = 2 + below(6);
        for (int i = 0; i < houses; i++) {
            clauses.add("h" + (below(8) > 0 ? "x" + below(near + 1) : "") + (below(8) > 0 ? "y" + below(near + 1) : "")
                + (below(6) > 0 ? "g" + below(below(2) == 0 ? 31 : 8) : "") + (below(4) == 0 ? "q" + below(2) : ""));
        }
        int bearers = 1 + below(5);
        for (int i = 0; i < bearers; i++) {
            clauses.add(below(clauses.size() + 1), "b" + (below(4) > 0 ? "s" + (1 + below(40)) : ""));
        }
        if (below(4) > 0) {
            clauses.add(below(clauses.size() + 1), "s" + (below(4) > 0 ? "t" + (1 + below(99)) : "")
                + (below(2) > 0 ? "c" + below(100) : "") + (below(2) > 0 ? "e" + below(10) : ""));
        }
        return blanks(String.join(";", clauses));
    }

    private String sum(int deep) {
        StringBuilder text = new StringBuilder();
        int atoms = 1 + below(3);
        for (int i = 0; i < atoms; i++) {
            text.append(i > 0 ? oneOf("+", "-", "*", "/") : "");
            int sort = below(deep > 0 ? 5 : 4);
            text.append(sort < 2 ? oneOf("g", "q", "t", "n", "d", "y") : sort < 3 ? "" + below(30)
                : sort < 4 ? "" + below(10000) : "[" + sum(deep - 1) + "]");
        }
        return text.toString();
    }

    private String unit(int deep) {
        int sort = below(deep > 0 ? 5 : 3);
        return sort < 3 ? sum(deep) + oneOf("=", "<", ">") + sum(deep) : sort < 4 ? "!" + unit(deep - 1)
            : "(" + condition(deep - 1) + ")";
    }

    private String condition(int deep) {
        StringBuilder text = new StringBuilder(unit(deep));
        for (int more = below(3); more > 0; more--) {
            text.append(oneOf("&", "|")).append(unit(deep));
        }
        return text.toString();
    }

    private String lawText() {
        if (below(3) == 0) {
            return oneOf("y:g", "y:g-t/9", "y:q=1?2;y:[g+d]/2", "y:t>20?g/3;y:g-n*2", "y:n+1", "y:g*[n+1]/3+t-t/7*7",
                "y:t-t/5*5+q", "y:d+n;y:3", "y:g<5|!g<20?0;y:g-5", "y:7-n*3", "y:y+g/2", "y:30-g", "y:t=t/2*2?g;y:g/4");
        }
        StringBuilder text = new StringBuilder();
        int clauses = 1 + below(3);
        for (int i = 0; i < clauses; i++) {
            text.append(i > 0 ? ";" : "").append("y:").append(below(2) == 0 ? condition(below(7)) + "?" : "").append(sum(3));
        }
        return blanks(text.length() > 240 ? "y:g" : text.toString());
    }

    private String spoilt(String text) {
        StringBuilder other = new StringBuilder(text);
        for (int changes = below(3); changes >= 0; changes--) {
            int at = below(other.length() + 1);
            int sort = below(4);
            if (sort == 0) {
                other.setLength(at);
            } else if (sort == 1) {
                other.insert(at, SIGNS.charAt(below(SIGNS.length())));
            } else if (sort == 2 && at < other.length()) {
                other.deleteCharAt(at);
            } else if (at < other.length()) {
                other.setCharAt(at, below(9) == 0 ? (char) (1 + below(255)) : SIGNS.charAt(below(SIGNS.length())));
            }
        }
        return other.toString();
    }

    private void compareFault(int run) {
        int sort = below(2);
        String text = sort == 0 ? townText() : lawText();
        if (below(8) > 0) {
            text = spoilt(text);
        }
        if (text.length() <= 240) {
            int want = sort == 0 ? Model.townFault(text) : Model.lawFault(text);
            Check.due("fault(" + sort + ") of '" + text + "'", Check.fault(text, sort), want);
        }
    }

    private void run(int run) {
        program = new SaintCarried();
        model = new Model();
        told = new ArrayList<>();
        int load = 0;
        for (int call = 0; call < CALLS && Check.failed < 20; call++) {
            int failedBefore = Check.failed;
            if (call < 3 || below(150) == 0) {
                load(load++);
            } else if (below(3) == 0) {
                compareAct();
            } else {
                compareAsked();
            }
            if (Check.failed > failedBefore) {
                System.out.println("run " + run + ": " + told);
                return;
            }
        }
    }

    private void due(String call, long got, long want) {
        told.add(call + " " + want);
        Check.due(call, got, want);
    }

    private void load(int time) {
        int sort = time == 0 ? 0 : time == 1 ? 1 : below(3) == 0 ? 0 : 1;
        String text = sort == 0 ? townText() : lawText();
        if (below(5) == 0) {
            text = spoilt(text);
        }
        due("end(0)", program.end(0) ? 1 : 0, model.end(0) ? 1 : 0);
        for (int i = 0; i < text.length(); i += 20) {
            compareFeed(text, i);
        }
        due("fault(" + sort + ")", program.fault(sort), model.fault(sort));
        due("text(" + sort + ") '" + text + "'", program.text(sort), model.text(sort));
        int law = below(5) - 1;
        due("law(" + law + ")", program.law(law) ? 1 : 0, model.law(law) ? 1 : 0);
    }

    private void compareFeed(String text, int i) {
        int a = Check.four(text, i);
        int b = Check.four(text, i + 4);
        int c = Check.four(text, i + 8);
        int d = Check.four(text, i + 12);
        int e = Check.four(text, i + 16);
        due("feed(" + a + ", " + b + ", " + c + ", " + d + ", " + e + ")", program.feed(a, b, c, d, e), model.feed(a, b, c, d, e));
    }

    private int number(int least, int most) {
        if (below(40) == 0) {
            return new int[] {Integer.MIN_VALUE, Integer.MAX_VALUE, -2, -1, least - 1, most + 1}[below(6)];
        }
        return least + below(most - least + 1);
    }

    private int house() {
        return number(0, Math.max(0, model.houses.size() - 1));
    }

    private void compareAct() {
        int a = house();
        int n = number(1, below(2) == 0 ? 5 : 30);
        switch (below(11)) {
            case 0: case 1: case 2: case 3:
                due("carry(" + a + ")", program.carry(a), model.carry(a));
                break;
            case 4:
                due("rest()", program.rest(), model.rest());
                break;
            case 5:
                due("gift(" + a + ", " + n + ")", program.gift(a, n), model.gift(a, n));
                break;
            case 6:
                int coins = number(1, 50);
                due("give(" + coins + ")", program.give(coins), model.give(coins));
                break;
            case 7:
                due("year()", program.year(), model.year());
                break;
            case 8:
                if (below(4) == 0) {
                    int v = number(0, 9);
                    due("faith(" + v + ")", program.faith(v) ? 1 : 0, model.faith(v) ? 1 : 0);
                    int acts = number(1, 60);
                    long seed = x;
                    due("decades(" + acts + ", " + seed + ")", program.decades(acts, seed), model.decades(acts, seed));
                }
                break;
            case 9:
                due("undo()", program.undo(), model.undo());
                break;
            default:
                if (below(6) == 0) {
                    due("back()", program.back(), model.back());
                } else {
                    due("image()", program.image(), model.image());
                }
                break;
        }
        compareCounts();
    }

    private void compareCounts() {
        int what = number(0, 15);
        due("count(" + what + ")", program.count(what), model.count(what));
        int house = house();
        int of = number(0, 4);
        due("house(" + house + ", " + of + ")", Check.house(program, house, of), model.house(house, of));
        int i = number(0, 3);
        int column = number(0, 3);
        due("log(" + i + ", " + column + ")", program.log(i, column), model.log(i, column));
        due("log(59, " + column + ")", program.log(59, column), model.log(59, column));
        int sort = number(0, 4);
        due("status(" + sort + ")", program.status(sort), model.status(sort));
    }

    private void compareAsked() {
        int sort = below(30);
        if (sort < 10) {
            compareSmall(sort);
        } else if (sort < 20) {
            compareWays(sort);
        } else {
            compareTold(sort);
        }
    }

    private void compareSmall(int sort) {
        int a = house();
        int b = house();
        int n = number(0, 60);
        switch (sort) {
            case 0:
                int what = number(0, 3);
                due("rule(" + what + ")", program.rule(what), model.rule(what));
                break;
            case 1:
                int bearer = number(0, 4);
                due("bearer(" + bearer + ")", program.bearer(bearer), model.bearer(bearer));
                break;
            case 2:
                int law = number(-1, 3);
                due("law(" + law + ")", program.law(law) ? 1 : 0, model.law(law) ? 1 : 0);
                break;
            case 3:
                int one = below(3) == 0 ? -1 : a;
                due("steps(" + one + ", " + b + ")", program.steps(one, b), model.steps(one, b));
                break;
            case 4:
                due("stands(" + a + ")", program.stands(a), model.stands(a));
                break;
            case 5:
                due("shorter(" + a + ", " + n + ")", program.shorter(a, n), model.shorter(a, n));
                break;
            case 6:
                int sum = number(1, 200);
                due("roster(" + sum + ")", program.roster(sum), model.roster(sum));
                due("years(" + sum + ")", program.years(sum), model.years(sum));
                break;
            case 7:
                int c = number(0, 999);
                due("shares(" + a + ", " + c + ")", program.shares(a, c), model.shares(a, c));
                break;
            case 8:
                due("waits(" + n + ")", program.waits(n), model.waits(n));
                break;
            default:
                due("remains(" + a + ")", program.remains(a), model.remains(a));
                break;
        }
    }

    private void compareWays(int sort) {
        int a = house();
        switch (sort) {
            case 10: case 11:
                int what = number(0, 2);
                due("route(" + what + ")", program.route(what), model.route(what));
                break;
            case 12: case 13:
                int of = number(0, 1);
                due("order(" + of + ")", program.order(of), model.order(of));
                break;
            case 14: case 15:
                int k = number(0, 7);
                int chance = number(0, 100);
                due("odds(" + k + ", " + chance + ")", program.odds(k, chance), model.odds(k, chance));
                break;
            case 16: case 17:
                int most = number(0, 7);
                due("most(" + most + ")", program.most(most), model.most(most));
                break;
            case 18:
                due("rival(" + a + ")", program.rival(a), model.rival(a));
                break;
            default:
                due("meets(" + a + ")", program.meets(a), model.meets(a));
                break;
        }
    }

    private void compareTold(int sort) {
        int a = house();
        int b = house();
        int i = number(-1, 5);
        int time = number(0, 99);
        switch (sort) {
            case 20:
                int m = below(2) == 0 ? number(0, 60) : model.isHouse(a) ? model.first(a, below(31), Math.abs(time % 100)) : 1;
                due("stood(" + a + ", " + time + ", " + m + ")", program.stood(a, time, m), model.stood(a, time, m));
                break;
            case 21: case 22:
                due("fits(" + a + ", " + i + ")", program.fits(a, i), model.fits(a, i));
                break;
            case 23: case 24:
                due("ask(" + time + ")", program.ask(time), model.ask(time));
                break;
            case 25:
                int x1 = number(0, 9);
                int y1 = number(0, 9);
                int who = number(0, 1);
                due("game(" + a + ", " + b + ", " + x1 + ", " + y1 + ", " + who + ")",
                    program.game(a, b, x1, y1, who), model.game(a, b, x1, y1, who));
                break;
            case 26:
                due("rests(" + a + ", " + b + ", " + i + ")", program.rests(a, b, i), model.rests(a, b, i));
                break;
            case 27:
                int place = number(0, 6);
                boolean is = below(3) == 0;
                due("seen(" + place + ", " + a + ", " + is + ")", program.seen(place, a, is), model.seen(place, a, is));
                break;
            default:
                int g = number(1, 9);
                due("who(" + g + ", " + i + ")", program.who(g, i), model.who(g, i));
                break;
        }
    }
}
