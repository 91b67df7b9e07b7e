import java.util.function.Consumer;
import java.util.function.ToLongFunction;

/**
 * Terms: "Calls that are refused answer, the first of these that fits ... They change nothing." Each refused call is made
 * on one of two objects that had the same calls; then both must tell the same in all they are asked.
 */
public final class RefusalsTest {
    private static final int LEAST = Integer.MIN_VALUE;
    private static final int MOST = Integer.MAX_VALUE;
    private static final int UNKNOWN = FallingGlass.UNKNOWN;
    private static final int OUTSIDE = FallingGlass.OUTSIDE;
    private static final int STATE = FallingGlass.STATE;
    private static final int FULL = FallingGlass.FULL;
    private static final int NO = FallingGlass.NO;
    private static final int GONE = FallingGlass.GONE;
    private static final long LOST = FallingGlass.LOST;
    private static final Edges EDGES = new Edges("RefusalsTest");

    public static void main(String[] args) {
        glassAndBook();
        sayingsAndTellers();
        scores();
        lowAndHay();
        imagesAndTold();
        EDGES.end(2, 33);
    }

    // ---- what is refused of

    private static void some(FallingGlass g) {
        g.hour(40);
        g.stick(6);
        g.hour(35);
        g.day(0, 4, 44, 6, 2, 1);
        g.day(0, 7, 39, 1, 1, 0);
        g.day(1, 4, -1, 7, 3, 1);
        g.wire(1, 321);
        Due.saying(g, 0, "p>40:3;*:7");
        Due.saying(g, 2, "y=1:9");
        g.glass(4, 4, 50, 6);
        g.set(0, 16);
        g.set(1, 8);
        g.set(2, 20);
        g.image(0);
        g.day(2, 5, 33, 7, 3, 0);
        Due.say(g, "p<1:");
    }

    /** The most of all that can be full. */
    private static void most(FallingGlass g) {
        for (int i = 0; i < 60; i++) {
            g.day(i % 10, i % 12, i, i % 8, i % 4, i % 2);
        }
        for (int i = 0; i < 50; i++) {
            g.say('*');
        }
        for (int i = 0; i < 4; i++) {
            g.glass(4, 4, 80, 6);
        }
    }

    private static void none(FallingGlass g) {
        g.hour(51);
    }

    /** A look that nothing fits. */
    private static void nowhere(FallingGlass g) {
        g.glass(0, 0, 0, 0);
    }

    // ---- how it is held

    private static void sentence(int promise) {
        EDGES.of(promise, "Calls that are refused ... change nothing");
    }

    private static void neverRefused(int promise, String call, ToLongFunction<FallingGlass> asked, long none, long most) {
        EDGES.of(promise, "[" + call + " is never refused]");
        FallingGlass g = new FallingGlass();
        none(g);
        EDGES.is(call + " where nothing is", asked.applyAsLong(g), none);
        FallingGlass full = new FallingGlass();
        most(full);
        EDGES.is(call + " where all is full", asked.applyAsLong(full), most);
    }

    private static void refused(String call, Consumer<FallingGlass> before, ToLongFunction<FallingGlass> asked, long due) {
        FallingGlass one = new FallingGlass();
        FallingGlass other = new FallingGlass();
        before.accept(one);
        before.accept(other);
        EDGES.is(call, asked.applyAsLong(one), due);
        EDGES.is(call + " changed nothing: 1", told(one).equals(told(other)) ? 1 : 0, 1);
    }

    private static void of(String call, ToLongFunction<FallingGlass> asked, long due) {
        refused(call, RefusalsTest::some, asked, due);
    }

    private static void ofMost(String call, ToLongFunction<FallingGlass> asked, long due) {
        refused(call + " where all is full", RefusalsTest::most, asked, due);
    }

    private static void ofNone(String call, ToLongFunction<FallingGlass> asked, long due) {
        refused(call + " where nothing is", RefusalsTest::none, asked, due);
    }

    /** All that an object tells of itself, in some 250 calls; it is not as it was then. */
    private static String told(FallingGlass g) {
        StringBuilder all = new StringBuilder();
        for (int what = 0; what <= 13; what++) {
            all.append(g.told(what)).append(' ');
        }
        all.append(g.fault()).append(' ');
        int days = g.told(0);
        for (int day = 0; day < days; day += day < 2 || day >= days - 2 ? 1 : 9) {
            for (int what = 0; what < 9; what++) {
                all.append(g.look(day, what)).append(' ').append(g.odds(what, day)).append(' ');
            }
        }
        all.append(g.may(-1, 0)).append(' ').append(g.may(4, 8)).append(' ').append(g.may(5, 5)).append(' ');
        all.append(g.tap()).append(' ').append(g.wipe()).append(' ').append(g.clear()).append(' ');
        for (int n = 0; n < 2; n++) {
            all.append(g.restore(n)).append(' ').append(g.tap()).append(' ').append(g.may(-1, 0)).append(' ');
            for (int what = 0; what <= 13; what++) {
                all.append(g.told(what)).append(' ');
            }
        }
        return all.toString();
    }

    private static int[] beside(int least, int most) {
        return new int[] {least - 1, most + 1, LEAST, MOST};
    }

    // ---- promises 2 to 7

    private static void glassAndBook() {
        sentence(2);
        for (int v : beside(0, 99)) {
            of("hour(" + v + ")", g -> g.hour(v), OUTSIDE);
        }
        neverRefused(3, "tap()", g -> g.tap(), 0, 0);
        sentence(4);
        for (int v : beside(0, 9)) {
            of("stick(" + v + ")", g -> g.stick(v), OUTSIDE);
        }
        sentence(5);
        int[] least = {0, 0, -1, 0, 0, 0};
        int[] most = {9, 11, 99, 7, 3, 1};
        for (int i = 0; i < 6; i++) {
            for (int v : beside(least[i], most[i])) {
                int[] a = {1, 1, 1, 1, 1, 1};
                a[i] = v;
                of("day with " + v, g -> g.day(a[0], a[1], a[2], a[3], a[4], a[5]), OUTSIDE);
                ofMost("day with " + v, g -> g.day(a[0], a[1], a[2], a[3], a[4], a[5]), OUTSIDE);
            }
        }
        ofMost("day", g -> g.day(1, 1, 1, 1, 1, 1), FULL);
        sentence(6);
        ofNone("tear()", g -> g.tear(), NO);
        sentence(7);
        for (int day : beside(0, 3)) {
            of("look(" + day + ", 9)", g -> g.look(day, 9), UNKNOWN);
        }
        for (int what : beside(0, 8)) {
            of("look(3, " + what + ")", g -> g.look(3, what), OUTSIDE);
            ofNone("look(0, " + what + ")", g -> g.look(0, what), UNKNOWN);
        }
    }

    // ---- promises 8 to 15

    private static void sayingsAndTellers() {
        sentence(8);
        for (int sign : beside(33, 126)) {
            of("say(" + sign + ")", g -> g.say(sign), OUTSIDE);
            ofMost("say(" + sign + ")", g -> g.say(sign), OUTSIDE);
        }
        ofMost("say(33)", g -> g.say(33), FULL);
        neverRefused(9, "wipe()", g -> g.wipe(), 0, 50);
        neverRefused(10, "fault()", g -> g.fault(), 0, 1);
        sentence(11);
        for (int saying : beside(0, 3)) {
            of("saying(" + saying + ")", g -> g.saying(saying), UNKNOWN);
            ofMost("saying(" + saying + ")", g -> g.saying(saying), UNKNOWN);
            ofNone("saying(" + saying + ")", g -> g.saying(saying), UNKNOWN);
        }
        of("saying(0), if more must come", g -> g.saying(0), NO);
        ofMost("saying(3) of a fault", g -> g.saying(3), NO);
        sentence(12);
        for (int teller : beside(0, 8)) {
            of("odds(" + teller + ", 3)", g -> g.odds(teller, 3), UNKNOWN);
            of("odds(" + teller + ", 4)", g -> g.odds(teller, 4), UNKNOWN);
        }
        for (int day : beside(0, 3)) {
            of("odds(8, " + day + ")", g -> g.odds(8, day), UNKNOWN);
        }
        sentence(13);
        for (int day : beside(0, 3)) {
            of("such(" + day + ", 2)", g -> g.such(day, 2), UNKNOWN);
        }
        for (int what : beside(0, 1)) {
            of("such(3, " + what + ")", g -> g.such(3, what), OUTSIDE);
        }
        sentence(14);
        for (int day : beside(0, 3)) {
            of("wire(" + day + ", 500)", g -> g.wire(day, 500), UNKNOWN);
            of("wire(" + day + ", 1001)", g -> g.wire(day, 1001), UNKNOWN);
        }
        for (int v : beside(-1, 1000)) {
            of("wire(1, " + v + ")", g -> g.wire(1, v), OUTSIDE);
        }
        sentence(15);
        int[] most = {63, 10, 20};
        for (int which = 0; which < 3; which++) {
            int its = which;
            for (int v : beside(0, most[which])) {
                of("set(" + which + ", " + v + ")", g -> g.set(its, v), OUTSIDE);
            }
        }
        for (int which : beside(0, 2)) {
            of("set(" + which + ", 1)", g -> g.set(which, 1), OUTSIDE);
        }
    }

    // ---- promises 16 to 23

    private static void scores() {
        sentence(16);
        for (int teller : beside(0, 8)) {
            of("score(" + teller + ", 2)", g -> g.score(teller, 2), LOST + UNKNOWN);
        }
        for (int part : beside(0, 1)) {
            of("score(0, " + part + ")", g -> g.score(0, part), LOST + OUTSIDE);
            ofNone("score(0, " + part + ")", g -> g.score(0, part), LOST + OUTSIDE);
        }
        of("score of a SAYING that says nothing", g -> g.score(3, 0), LOST + NO);
        ofNone("score(0, 1)", g -> g.score(0, 1), LOST + NO);
        sentence(17);
        for (int teller : beside(0, 8)) {
            of("means of " + teller, g -> g.means(teller, 1, 0, 2), UNKNOWN);
        }
        int[][] outside = {{-1, 1000, 0}, {0, 1001, 0}, {500, 499, 0}, {0, 0, 2}, {0, 0, -1}, {LEAST, MOST, 0}};
        for (int[] a : outside) {
            of("means from " + a[0] + " to " + a[1] + ", " + a[2], g -> g.means(7, a[0], a[1], a[2]), OUTSIDE);
        }
        sentence(18);
        for (int what : beside(0, 1)) {
            of("best(" + what + ")", g -> g.best(what), OUTSIDE);
        }
        sentence(19);
        for (int saying : beside(0, 3)) {
            of("tried(" + saying + ", 3)", g -> g.tried(saying, 3), UNKNOWN);
        }
        for (int what : beside(0, 2)) {
            of("tried(0, " + what + ")", g -> g.tried(0, what), OUTSIDE);
        }
        sentence(20);
        for (int saying : beside(0, 3)) {
            of("lot(" + saying + ", 2)", g -> g.lot(saying, 2), LOST + UNKNOWN);
        }
        for (int part : beside(0, 1)) {
            of("lot(0, " + part + ")", g -> g.lot(0, part), LOST + OUTSIDE);
        }
        sentence(21);
        for (int year : beside(0, 10)) {
            of("changed(" + year + ", 0)", g -> g.changed(year, 0), LOST + OUTSIDE);
        }
        for (int part : beside(0, 1)) {
            of("changed(0, " + part + ")", g -> g.changed(0, part), LOST + OUTSIDE);
        }
        sentence(22);
        for (int what : beside(0, 1)) {
            of("engraved(" + what + ")", g -> g.engraved(what), OUTSIDE);
        }
        sentence(23);
        for (int h : beside(0, 40)) {
            of("right(" + h + ")", g -> g.right(h), OUTSIDE);
        }
    }

    // ---- promises 24 to 30

    private static void lowAndHay() {
        sentence(24);
        int[] looks = {8, 8, 99, 7};
        for (int i = 0; i < 4; i++) {
            for (int v : beside(0, looks[i])) {
                int[] a = {4, 4, 80, 6};
                a[i] = v;
                of("glass with " + v, g -> g.glass(a[0], a[1], a[2], a[3]), OUTSIDE);
                ofMost("glass with " + v, g -> g.glass(a[0], a[1], a[2], a[3]), OUTSIDE);
            }
        }
        ofMost("glass", g -> g.glass(4, 4, 80, 6), FULL);
        neverRefused(25, "clear()", g -> g.clear(), 0, 4);
        sentence(26);
        for (int v : new int[] {-2, 9, LEAST, MOST}) {
            of("may(" + v + ", 0)", g -> g.may(v, 0), OUTSIDE);
            of("may(0, " + v + ")", g -> g.may(0, v), OUTSIDE);
        }
        of("may(0, -1)", g -> g.may(0, -1), OUTSIDE);
        sentence(27);
        for (int v : beside(0, 8)) {
            of("low(" + v + ", 0, 0)", g -> g.low(v, 0, 0), LOST + OUTSIDE);
            refused("low(0, " + v + ", 0)", RefusalsTest::nowhere, g -> g.low(0, v, 0), LOST + OUTSIDE);
        }
        for (int part : beside(0, 1)) {
            refused("low(0, 0, " + part + ")", RefusalsTest::nowhere, g -> g.low(0, 0, part), LOST + OUTSIDE);
        }
        refused("low(0, 0, 0)", RefusalsTest::nowhere, g -> g.low(0, 0, 0), LOST + NO);
        hay();
        sentence(30);
        for (int teller : beside(0, 8)) {
            of("believed(" + teller + ", 1000, 1000)", g -> g.believed(teller, 1000, 1000), GONE + UNKNOWN);
        }
        for (int v : beside(0, 999)) {
            of("believed(7, " + v + ", 0)", g -> g.believed(7, v, 0), GONE + OUTSIDE);
            of("believed(7, 0, " + v + ")", g -> g.believed(7, 0, v), GONE + OUTSIDE);
        }
    }

    private static void hay() {
        int[] least = {0, 1, 0, 1, 0, 0, 0};
        int[] most = {999, 9, 3, 3, 999, 999, 99};
        for (int promise = 28; promise <= 29; promise++) {
            boolean value = promise == 28;
            sentence(promise);
            for (int i = 0; i < 7; i++) {
                for (int v : beside(least[i], most[i])) {
                    int[] a = {5, 3, 0, 1, 10, 10, 10};
                    a[i] = v;
                    of((value ? "hay with " : "does with ") + v, g -> value ? g.hay(a[0], a[1], a[2], a[3], a[4], a[5], a[6])
                        : g.does(a[0], a[1], a[2], a[3], a[4], a[5], a[6]), OUTSIDE);
                }
            }
        }
    }

    // ---- promises 31 to 33

    private static void imagesAndTold() {
        sentence(31);
        for (int n : beside(0, 1)) {
            of("image(" + n + ")", g -> g.image(n), OUTSIDE);
        }
        sentence(32);
        for (int n : beside(0, 1)) {
            of("restore(" + n + ")", g -> g.restore(n), OUTSIDE);
        }
        of("restore(1)", g -> g.restore(1), STATE);
        ofNone("restore(0)", g -> g.restore(0), STATE);
        sentence(33);
        for (int what : new int[] {-1, 8, 9, 14, LEAST, MOST}) {
            of("told(" + what + ")", g -> g.told(what), OUTSIDE);
        }
    }
}
