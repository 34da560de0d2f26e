import java.util.NoSuchElementException;

/** Counts what is as due and what isn't; feeds texts to a tape. */
final class Check {
    static int passed = 0;
    static int failed = 0;

    private Check() {
    }

    static void due(String what, long got, long want) {
        if (got == want) {
            passed++;
        } else {
            failed++;
            System.out.println(what + " answered " + got + ", due is " + want);
        }
    }

    static void due(String what, boolean got, boolean want) {
        due(what, got ? 1 : 0, want ? 1 : 0);
    }

    /** One number of four signs of a text, from the i-th on; 0 behind its end. */
    static int four(String text, int i) {
        int number = 0;
        for (int j = i; j < i + 4; j++) {
            number = number << 8 | (j < text.length() ? text.charAt(j) : 0);
        }
        return number;
    }

    static int feed(SaintCarried x, String text) {
        int size = x.count(3);
        for (int i = 0; i < text.length(); i += 20) {
            size = x.feed(four(text, i), four(text, i + 4), four(text, i + 8), four(text, i + 12), four(text, i + 16));
        }
        return size;
    }

    /** The FAULT of a text on a tape of its own. */
    static int fault(String text, int sort) {
        SaintCarried x = new SaintCarried();
        feed(x, text);
        return x.fault(sort);
    }

    static SaintCarried town(String text) {
        SaintCarried x = new SaintCarried();
        feed(x, text);
        if (x.text(0) == SaintCarried.NONE) {
            throw new IllegalStateException("no town: " + text);
        }
        return x;
    }

    static SaintCarried town(String text, String law) {
        SaintCarried x = town(text);
        feed(x, law);
        int number = x.text(1);
        if (number == SaintCarried.NONE || !x.law(number)) {
            throw new IllegalStateException("no law: " + law);
        }
        return x;
    }

    /** HIDDEN stands for the exception. */
    static int house(SaintCarried x, int house, int what) {
        try {
            return x.house(house, what);
        } catch (NoSuchElementException e) {
            return SaintCarried.HIDDEN;
        }
    }
}
