import java.util.Map;
import java.util.TreeMap;

/**
 * Holds the sentences of the document that name an edge. Each is opened by the number of its promise and its words;
 * the answers behind it stand for that sentence alone.
 */
final class Edges {
    private final String name;
    private final Map<Integer, Integer> sentences = new TreeMap<>();
    private int promise = 0;
    private String words = "";
    private int answers = 1;
    private int wrong = 0;

    Edges(String name) {
        this.name = name;
    }

    /** Opens a sentence. */
    void of(int itsPromise, String itsWords) {
        close();
        promise = itsPromise;
        words = itsWords;
        answers = 0;
        sentences.merge(promise, 1, Integer::sum);
    }

    private void close() {
        if (answers == 0) {
            fault("nothing was asked");
        }
    }

    void is(String call, long got, long want) {
        answers++;
        if (got != want) {
            fault(call + " answered " + got + ", due is " + want);
        }
    }

    void fraction(String call, long upper, long lower, long wantUpper, long wantLower) {
        is(call + ", upper", upper, wantUpper);
        is(call + ", lower", lower, wantLower);
    }

    private void fault(String text) {
        wrong++;
        System.out.println("promise " + promise + " \"" + words + "\": " + text);
    }

    /** Ends the program; each promise from one to another must have had a sentence. */
    void end(int from, int to) {
        close();
        int all = 0;
        for (int p = from; p <= to; p++) {
            int count = sentences.getOrDefault(p, 0);
            all += count;
            if (count == 0) {
                wrong++;
                System.out.println("promise " + p + " has no sentence");
            }
        }
        System.out.println(name + ": " + all + " sentences of promises " + from + " to " + to + ", " + wrong + " faults");
        if (wrong > 0) {
            System.exit(1);
        }
    }
}
