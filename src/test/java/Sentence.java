import java.util.ArrayList;
import java.util.List;

/** A sentence of the document that names a bound, the promise that it is of, and the answers that are due by it. */
final class Sentence {
    private static final List<Sentence> ALL = new ArrayList<>();
    final int promise;
    final String words;
    private int answers;

    private Sentence(int promise, String words) {
        this.promise = promise;
        this.words = words;
    }

    static Sentence of(int promise, String words) {
        for (Sentence known : ALL) {
            if (known.promise == promise && known.words.equals(words)) {
                return known;
            }
        }
        Sentence sentence = new Sentence(promise, words);
        ALL.add(sentence);
        return sentence;
    }

    static List<Sentence> all() {
        return ALL;
    }

    int answers() {
        return answers;
    }

    void due(String what, long got, long want) {
        answers++;
        Check.due(name() + what, got, want);
    }

    void due(String what, boolean got, boolean want) {
        due(what, got ? 1 : 0, want ? 1 : 0);
    }

    String name() {
        return "promise " + promise + ", \"" + words + "\": ";
    }

    /** The FAULT of a text as a TOWN. */
    void town(String text, int want) {
        due("FAULT of '" + text + "' as a TOWN", Check.fault(text, 0), want);
    }

    /** The FAULT of a text as a LAW. */
    void law(String text, int want) {
        due("FAULT of '" + text + "' as a LAW", Check.fault(text, 1), want);
    }

    /** How long he would STAND by a law: HOUSE 0 at 3 STEPS, GRIEVANCE 8. */
    void worth(String law, int want) {
        due("STANDS by " + law, Check.town("hx3g8;hx5y5g6q1;b", law).stands(0), want);
    }

    /** Of all bytes, which can stand behind these: the blank always can. */
    void follow(int sort, String ahead, String able) {
        for (int sign = 1; sign <= 255; sign++) {
            boolean isAble = sign == ' ' || able.indexOf(sign) >= 0;
            boolean goesOn = Check.fault(ahead + (char) sign, sort) != ahead.length();
            due("byte " + sign + " behind '" + ahead + "' goes on", goesOn, isAble);
        }
    }
}
