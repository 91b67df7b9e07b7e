/** Promises 16 to 23: scores, means, best, tried, lots, changes, the engraver's words. */
public final class ScoresTest {
    private static final int LOW = Integer.MIN_VALUE;
    private static final int HIGH = Integer.MAX_VALUE;
    private static final long LOST = FallingGlass.LOST;
    private static final Due DUE = new Due("ScoresTest");

    public static void main(String[] args) {
        scores();
        scoresRefused();
        means();
        meansRefused();
        bestKeys();
        bestKeysAmongLikes();
        bestWeight();
        bestRefused();
        tried();
        lots();
        greatLots();
        changes();
        words();
        DUE.end();
    }

    private static void wet(FallingGlass g, int year, String rains) {
        for (int i = 0; i < rains.length(); i++) {
            g.day(year, 0, 50, 0, 0, rains.charAt(i) - '0');
        }
    }

    private static void fraction(String call, long upper, long lower, long wantUpper, long wantLower) {
        DUE.is(call + " upper", upper, wantUpper);
        DUE.is(call + " lower", lower, wantLower);
    }

    private static void scoreIs(FallingGlass g, int teller, long upper, long lower) {
        fraction("score of " + teller, g.score(teller, 0), g.score(teller, 1), upper, lower);
    }

    private static void scores() {
        FallingGlass g = new FallingGlass();
        wet(g, 0, "1101");
        wet(g, 1, "0");
        // yesterday: 1000 0, 1000 1 .. : days 1 to 4: 1000-1, 1000-0, 0-1, 1000-0
        scoreIs(g, 0, 750000, 1);
        // month: year 0 hears of 0 of 1; year 1 of 3 of 4: (3 times 1000000 and 562500) by 5
        scoreIs(g, 1, 712500, 1);
        Due.saying(g, 0, "y=1:7");
        // days 1 (wet), 2 (dry), 4 (dry)
        scoreIs(g, 2, 300 * 300 + 2 * 700 * 700, 3);
        Due.saying(g, 3, "*:5");
        scoreIs(g, 5, 250000, 1);
        g.wire(0, 1000);
        scoreIs(g, 7, 0, 1);
        g.wire(2, 3);
        scoreIs(g, 7, 9, 2);
        g.wire(2, 4);
        scoreIs(g, 7, 8, 1);
        // joined: day 0: (0 + 1000) / 2, day 2: (0 + 4) / 2
        scoreIs(g, 8, (250000 + 4) / 2, 1);
        scoreIs(g, 6, 712500, 1);
    }

    private static void scoresRefused() {
        FallingGlass g = new FallingGlass();
        for (int teller = 0; teller < 9; teller++) {
            DUE.is("never says", g.score(teller, 0), LOST - 5);
            DUE.is("OUTSIDE ahead of NO", g.score(teller, 2), LOST - 2);
        }
        for (int v : new int[] {-1, 9, LOW, HIGH}) {
            DUE.is("score of teller " + v, g.score(v, 2), LOST - 1);
        }
        for (int v : new int[] {-1, 2, LOW, HIGH}) {
            DUE.is("score part " + v, g.score(0, v), LOST - 2);
        }
        g.day(0, 0, 50, 0, 0, 1);
        DUE.is("one day has no yesterday", g.score(0, 1), LOST - 5);
    }

    private static void means() {
        FallingGlass g = new FallingGlass();
        wet(g, 0, "10110");
        int[] told = {0, 300, 300, 999, 1000};
        for (int day = 0; day < told.length; day++) {
            g.wire(day, told[day]);
        }
        int[][] due = {{0, 1000, 5, 3}, {0, 0, 1, 1}, {300, 300, 2, 1}, {301, 998, 0, 0}, {300, 999, 3, 2},
            {299, 1000, 4, 2}, {1000, 1000, 1, 0}, {1, 299, 0, 0}, {999, 999, 1, 1}};
        for (int[] row : due) {
            DUE.is("means from " + row[0], g.means(7, row[0], row[1], 0), row[2]);
            DUE.is("wet means from " + row[0], g.means(7, row[0], row[1], 1), row[3]);
        }
        g.wire(0, -1);
        DUE.is("nothing said does not count", g.means(7, 0, 1000, 0), 4);
        DUE.is("yesterday dry", g.means(0, 0, 500, 0), 1);
        DUE.is("yesterday dry, then wet", g.means(0, 0, 500, 1), 1);
    }

    private static void meansRefused() {
        FallingGlass g = new FallingGlass();
        for (int v : new int[] {-1, 9, LOW, HIGH}) {
            DUE.is("means of teller " + v, g.means(v, 5, 4, 7), -1);
        }
        int[][] bad = {{-1, 5, 0}, {0, 1001, 0}, {6, 5, 0}, {LOW, 5, 0}, {0, HIGH, 0}, {0, LOW, 0}, {HIGH, HIGH, 0},
            {0, 5, -1}, {0, 5, 2}, {0, 5, LOW}, {0, 5, HIGH}, {1000, 0, 0}, {-5, -4, 0}, {1001, 1002, 0}};
        for (int[] row : bad) {
            DUE.is("means " + row[0] + " " + row[1] + " " + row[2], g.means(0, row[0], row[1], row[2]), -2);
        }
        DUE.is("an empty book", g.means(0, 0, 0, 0), 0);
    }

    private static void bestKeys() {
        FallingGlass g = new FallingGlass();
        // Rain goes by the sky alone.
        for (int i = 0; i < 16; i++) {
            g.day(i / 4, i % 4, (i * 37) % 100, (i * 3) % 8, i % 2, i % 2);
        }
        // Sky is always the turn of yesterday too: both are without a fault on days they speak of.
        DUE.is("sky is the least alone", g.best(0), 8);
        DUE.is("keys stay", g.told(4), 4);
        g.day(4, 0, 50, 0, 0, 1);
        g.day(5, 0, 50, 0, 1, 0);
        g.set(0, 8);
        DUE.is("score by sky", g.score(6, 0) > 0 ? 1 : 0, 1);
        bestKeysByCount(g);
    }

    /** BEST KEYS as the interface itself tells them. */
    private static void bestKeysByCount(FallingGlass g) {
        int kept = g.told(4);
        int best = -6;
        long bestUpper = 0;
        long bestLower = 1;
        for (int keys = 0; keys < 64; keys++) {
            g.set(0, keys);
            long upper = g.score(6, 0);
            long lower = g.score(6, 1);
            if (upper < 0) {
                continue;
            }
            long mine = upper * bestLower;
            long theirs = bestUpper * lower;
            boolean fewer = best >= 0 && Integer.bitCount(keys) < Integer.bitCount(best);
            if (best < 0 || mine < theirs || mine == theirs && fewer) {
                best = keys;
                bestUpper = upper;
                bestLower = lower;
            }
        }
        g.set(0, kept);
        DUE.is("best keys by count", g.best(0), best);
    }

    private static void bestKeysAmongLikes() {
        FallingGlass g = new FallingGlass();
        DUE.is("no days", g.best(0), -6);
        g.day(0, 0, -1, 0, 0, 1);
        DUE.is("one day", g.best(0), -6);
        g.day(0, 0, -1, 0, 0, 1);
        DUE.is("one year", g.best(0), -6);
        g.day(1, 6, -1, 4, 1, 1);
        DUE.is("all alike: no keys", g.best(0), 0);
        FallingGlass two = new FallingGlass();
        // By wind or by sky or by month all is right: the least bits of one key.
        two.day(0, 0, -1, 0, 0, 1);
        two.day(0, 6, -1, 4, 1, 0);
        two.day(1, 0, -1, 0, 0, 1);
        two.day(1, 6, -1, 4, 1, 0);
        DUE.is("of like ones the least bits", two.best(0), 4);
        FallingGlass three = new FallingGlass();
        // Wind and sky together tell the rain, month alone tells it too: one key is fewer than two.
        three.day(0, 0, -1, 0, 0, 1);
        three.day(0, 6, -1, 0, 1, 0);
        three.day(0, 6, -1, 4, 0, 0);
        three.day(0, 0, -1, 4, 1, 1);
        three.day(1, 0, -1, 0, 0, 1);
        three.day(1, 6, -1, 0, 1, 0);
        three.day(1, 6, -1, 4, 0, 0);
        three.day(1, 0, -1, 4, 1, 1);
        DUE.is("of like ones the fewest keys", three.best(0), 16);
        bestKeysByCount(three);
        for (int i = 0; i < 8; i++) {
            three.tear();
        }
        DUE.is("no days any more", three.best(0), -6);
    }

    private static void bestWeight() {
        FallingGlass g = new FallingGlass();
        wet(g, 0, "10");
        wet(g, 1, "1");
        DUE.is("no wire", g.best(1), -6);
        g.wire(0, 1000);
        // The book says 1000 of day 0 as well.
        DUE.is("of like ones the least", g.best(1), 0);
        g.wire(0, 0);
        DUE.is("all the book", g.best(1), 10);
        DUE.is("weight stays", g.told(5), 5);
        FallingGlass mixed = new FallingGlass();
        wet(mixed, 0, "10");
        wet(mixed, 1, "10");
        mixed.wire(0, 900);
        mixed.wire(1, 300);
        // The book says 500 of each: squares by weight w: (500 w + 900 (10 - w)) / 10 and so on.
        DUE.is("all the wire", mixed.best(1), 0);
        mixed.wire(1, 700);
        // 100 + 40 w off on day 0, 700 - 20 w off on day 1.
        DUE.is("between", mixed.best(1), 5);
        mixed.set(0, 2);
        mixed.wire(1, -1);
        DUE.is("keys by which the book says nothing", mixed.best(1), -6);
    }

    private static void bestRefused() {
        FallingGlass g = new FallingGlass();
        for (int v : new int[] {-1, 2, LOW, HIGH}) {
            DUE.is("best " + v, g.best(v), -2);
        }
    }

    private static void tried() {
        FallingGlass g = new FallingGlass();
        for (int v : new int[] {-1, 4, LOW, HIGH}) {
            DUE.is("tried " + v, g.tried(v, 3), -1);
            DUE.is("lot " + v, g.lot(v, 2), LOST - 1);
        }
        for (int v : new int[] {-1, 3, LOW, HIGH}) {
            DUE.is("tried what " + v, g.tried(0, v), -2);
        }
        for (int v : new int[] {-1, 2, LOW, HIGH}) {
            DUE.is("lot part " + v, g.lot(0, v), LOST - 2);
        }
        for (int what = 0; what < 3; what++) {
            DUE.is("nothing tried", g.tried(3, what), 0);
        }
        g.day(0, 0, 10, 0, 0, 1);
        g.day(0, 0, 20, 0, 0, 0);
        g.day(0, 0, 30, 0, 0, 1);
        g.day(0, 0, 40, 0, 0, 1);
        g.day(0, 0, 50, 0, 0, 1);
        Due.saying(g, 3, "p=10:5;p=20:x;p=30:4;p=40:6");
        DUE.is("spoken of", g.tried(3, 0), 4);
        DUE.is("taken", g.tried(3, 1), 3);
        DUE.is("marked", g.tried(3, 2), 2);
        // 4 things, 3 marked, 3 taken: all ways have 2 or more.
        fraction("lot", g.lot(3, 0), g.lot(3, 1), 1, 1);
        DUE.is("another saying", g.tried(2, 0), 0);
    }

    private static void lots() {
        // 6 days, 3 wet; 2 taken, both wet: 3 of 15 ways.
        FallingGlass h = new FallingGlass();
        int[] presses = {1, 2, 3, 4, 5, 6};
        for (int press : presses) {
            h.day(0, 0, press, 0, 0, press <= 3 ? 1 : 0);
        }
        Due.saying(h, 0, "p<3:9;*:1");
        fraction("two of two", h.lot(0, 0), h.lot(0, 1), 1, 5);
        Due.saying(h, 0, "p=3:9;p=4:9;*:1");
        fraction("one or more of two", h.lot(0, 0), h.lot(0, 1), 4, 5);
        Due.saying(h, 0, "p>4:9;*:1");
        fraction("none or more", h.lot(0, 0), h.lot(0, 1), 1, 1);
        Due.saying(h, 0, "*:9");
        fraction("all taken", h.lot(0, 0), h.lot(0, 1), 1, 1);
        Due.saying(h, 0, "p>1:9;*:1");
        fraction("five taken, two wet", h.lot(0, 0), h.lot(0, 1), 1, 1);
        Due.saying(h, 0, "p<4:9;*:1");
        fraction("three of three", h.lot(0, 0), h.lot(0, 1), 1, 20);
        Due.saying(h, 0, "p<4:9;p=4:1");
        fraction("of those it speaks of", h.lot(0, 0), h.lot(0, 1), 1, 4);
        h.saying(0);
        fraction("says nothing", h.lot(0, 0), h.lot(0, 1), 1, 1);
    }

    private static void greatLots() {
        FallingGlass g = new FallingGlass();
        for (int i = 0; i < 60; i++) {
            g.day(i < 30 ? 1 : 0, 0, i, 0, 0, i < 30 ? 1 : 0);
        }
        fraction("30 of 30 of 60", g.changed(1, 0), g.changed(1, 1), 1, 118264581564861424L);
        Due.saying(g, 0, "p<30:8;*:2");
        fraction("by a saying", g.lot(0, 0), g.lot(0, 1), 1, 118264581564861424L);
        g.tear();
        g.day(1, 0, 0, 0, 0, 0);
        // 31 taken of 60, 30 marked, all of these taken: 30 / C(60, 31).
        fraction("30 of 31", g.changed(1, 0), g.changed(1, 1), 1, 114449595062769120L / 30);
    }

    private static void changes() {
        FallingGlass g = new FallingGlass();
        for (int year = 0; year <= 10; year++) {
            fraction("an empty book", g.changed(year, 0), g.changed(year, 1), 1, 1);
        }
        wet(g, 9, "11");
        wet(g, 3, "00");
        wet(g, 4, "1");
        wet(g, 2, "0");
        // 6 days, 3 wet.
        fraction("from 9", g.changed(9, 0), g.changed(9, 1), 1, 5);
        fraction("from 5", g.changed(5, 0), g.changed(5, 1), 1, 5);
        fraction("from 4", g.changed(4, 0), g.changed(4, 1), 1, 20);
        fraction("from 3", g.changed(3, 0), g.changed(3, 1), 1, 2);
        fraction("from 0", g.changed(0, 0), g.changed(0, 1), 1, 1);
        fraction("from 10", g.changed(10, 0), g.changed(10, 1), 1, 1);
        for (int v : new int[] {-1, 11, LOW, HIGH}) {
            DUE.is("changed " + v, g.changed(v, 0), LOST - 2);
        }
        for (int v : new int[] {-1, 2, LOW, HIGH}) {
            DUE.is("changed part " + v, g.changed(0, v), LOST - 2);
        }
    }

    private static void words() {
        FallingGlass g = new FallingGlass();
        g.day(0, 0, 39, 0, 0, 1);
        DUE.is("39 means rain", g.right(0), 1);
        DUE.is("40 means nothing", g.right(1), 0);
        g.tear();
        g.day(0, 0, 39, 0, 0, 0);
        DUE.is("39 is wrong", g.right(0), 0);
        DUE.is("59 means nothing", g.right(20), 0);
        DUE.is("60 means fair", g.right(21), 1);
        DUE.is("the least height", g.engraved(0), 21);
        DUE.is("right by it", g.engraved(1), 1);
        g.day(0, 0, -1, 0, 0, 1);
        DUE.is("no press, no word", g.right(0), 0);
        g.day(0, 0, 20, 0, 0, 1);
        DUE.is("by 0 and by 21 one each", g.engraved(0), 0);
        DUE.is("right by 0", g.engraved(1), 1);
        DUE.is("right by 21", g.right(21), 1);
        DUE.is("right by 20", g.right(20), 0);
        DUE.is("right by 19", g.right(19), 1);
        DUE.is("right by 0", g.right(0), 1);
        FallingGlass least = new FallingGlass();
        least.day(0, 0, 20, 0, 0, 1);
        DUE.is("of several the least", least.engraved(0), 0);
        least.day(0, 0, 39, 0, 0, 1);
        DUE.is("best by 0 alone", least.engraved(0), 0);
        DUE.is("right by 0", least.engraved(1), 2);
        least.tear();
        DUE.is("a torn day is not right", least.right(0), 1);
        FallingGlass one = new FallingGlass();
        one.day(0, 0, 59, 0, 0, 0);
        one.day(0, 0, 38, 0, 0, 1);
        DUE.is("best by 1 alone", one.engraved(0), 1);
        DUE.is("right by 1", one.engraved(1), 2);
        FallingGlass high = new FallingGlass();
        high.day(0, 0, 20, 0, 0, 0);
        DUE.is("height 40", high.engraved(0), 40);
        DUE.is("right by 40", high.engraved(1), 1);
        DUE.is("right 39", high.right(39), 0);
        for (int v : new int[] {-1, 41, LOW, HIGH}) {
            DUE.is("right " + v, g.right(v), -2);
        }
        for (int v : new int[] {-1, 2, LOW, HIGH}) {
            DUE.is("engraved " + v, g.engraved(v), -2);
        }
    }
}
