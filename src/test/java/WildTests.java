import java.lang.management.ManagementFactory;
import java.lang.reflect.InvocationTargetException;
import java.lang.reflect.Method;
import java.lang.reflect.Modifier;
import java.util.ArrayList;
import java.util.Comparator;
import java.util.List;
import java.util.NoSuchElementException;

/** Wild numbers in wild states: nothing throws but what the document says, and calls make no objects. */
final class WildTests {
    private static final int[] WILD = {
        Integer.MIN_VALUE, Integer.MIN_VALUE + 1, -1000000, -2, -1, 0, 1, 2, 3, 4, 5, 6, 7, 9, 10, 30, 31, 32, 60, 99, 100,
        999, 1000, 1000000, Integer.MAX_VALUE - 1, Integer.MAX_VALUE,
    };
    private static final String[] TEXTS = {
        "hx1g9;hx2g30;hy3q1;hx4;hy5g0;hx6y6g1;hx9y9;bs40;bs40;bs40;bs40;bs40;st99e9", "h;hx1;b",
        "y:t*t*t*t+g/[n-n];y:0", "y:!(g<5|q=1)&!!n<3?[[[[[[g*9999]]]]]]/[0-1]*9999;y:d/0+y*y*y",
        "y:((((((g>0))))))?0-9999*9999;y:1", "y:t-t/3*3+n*g/[d+1]", "y:", "hx10;", "y:g<", "",
    };
    private long drawn;

    private WildTests(long seed) {
        drawn = seed;
    }

    static void runAll() throws Exception {
        List<Method> face = new ArrayList<>();
        for (Method method : SaintCarried.class.getDeclaredMethods()) {
            if (Modifier.isPublic(method.getModifiers())) {
                face.add(method);
            }
        }
        face.sort(Comparator.comparing(Method::getName));
        for (int run = 0; run < 300; run++) {
            new WildTests(run).run(face);
        }
        room();
    }

    private int below(int j) {
        drawn = drawn * 6364136223846793005L + 1442695040888963407L;
        return (int) ((drawn >>> 35) % j);
    }

    private void run(List<Method> face) throws Exception {
        SaintCarried x = new SaintCarried();
        for (int call = 0; call < 480; call++) {
            if (call == 3 || below(60) == 0) {
                String text = TEXTS[below(TEXTS.length)];
                x.end(below(3) == 0 ? x.count(3) / 2 : 0);
                Check.feed(x, text);
                x.text(text.startsWith("h") ? 0 : 1);
                x.law(below(5) - 1);
            }
            wildCall(x, face.get(below(face.size())));
        }
        Check.due("wild: laws", x.count(2) <= 4 && x.count(3) <= 240 && x.count(14) <= 60 && x.count(15) <= 40, true);
    }

    private void wildCall(SaintCarried x, Method method) throws Exception {
        Class<?>[] types = method.getParameterTypes();
        Object[] arguments = new Object[types.length];
        for (int i = 0; i < types.length; i++) {
            int wild = below(2) == 0 ? below(7) : WILD[below(WILD.length)];
            if (types[i] == boolean.class) {
                arguments[i] = below(2) == 0;
            } else if (types[i] == long.class) {
                arguments[i] = below(2) == 0 ? (Object) drawn : (Object) (long) wild;
            } else {
                arguments[i] = wild;
            }
        }
        try {
            method.invoke(x, arguments);
            Check.passed++;
        } catch (InvocationTargetException e) {
            boolean isDue = method.getName().equals("house") && e.getCause() instanceof NoSuchElementException;
            Check.due("wild: " + method.getName() + " throws " + e.getCause(), isDue, true);
        }
    }

    /** A run's room is small: an object's rows are made with it, and the dearest calls make none. */
    private static void room() {
        com.sun.management.ThreadMXBean bean = (com.sun.management.ThreadMXBean) ManagementFactory.getThreadMXBean();
        for (int warm = 0; warm < 3; warm++) {
            dearCalls(Check.town(TEXTS[0], TEXTS[5]));
        }
        SaintCarried x = Check.town(TEXTS[0], TEXTS[5]);
        long id = Thread.currentThread().getId();
        long before = bean.getThreadAllocatedBytes(id);
        dearCalls(x);
        long calls = bean.getThreadAllocatedBytes(id) - before;
        Check.due("room: calls make no objects: " + calls, calls < 20000, true);
        before = bean.getThreadAllocatedBytes(id);
        new SaintCarried();
        long made = bean.getThreadAllocatedBytes(id) - before;
        Check.due("room: an object's rows: " + made, made < 40000, true);
    }

    private static void dearCalls(SaintCarried x) {
        for (int i = 0; i < 6; i++) {
            x.route(0);
            x.carry(i);
            x.order(1);
            x.rests(0, 1, -1);
            x.stood(0, i, 1);
            x.ask(5);
            x.seen(i, i, true);
            x.who(5, -1);
            x.odds(5, 33);
            x.image();
            x.decades(60, i);
            x.back();
            x.undo();
            Check.feed(x, "y:g+");
            x.fault(0);
            x.fault(1);
            x.text(1);
            x.end(0);
        }
    }
}
