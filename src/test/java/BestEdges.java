/** Promise 18, sentence by sentence: where the best keys and the best weight begin and end. */
final class BestEdges {
    private static final int LEAST = Integer.MIN_VALUE;
    private static final int MOST = Integer.MAX_VALUE;
    private static Edges edges;

    private BestEdges() {
    }

    static void all(Edges its) {
        edges = its;
        bestEnds();
        noKeysEverSay();
        eachKeyAlone();
        noKeys();
        allKeys();
        leastMeanNotLeastSum();
        leastAsFraction();
        silentKeysDoNotCount();
        fewestKeys();
        leastAsBits();
        keysAreNotSet();
        keysAskedAgain();
        keysOfFirstAndLastDay();
        keysOfSixtyDays();

        noWeightEverSays();
        weightAtTheEnds();
        weightAsFraction();
        leastWeightOfLikeOnes();
        weightByTheKeysSet();
        weightIsNotSet();
        weightOfTheLastDay();
        weightOfSixtyDays();
    }

    /** Each row: year, month, press, wind, sky, rain. */
    private static FallingGlass book(int[]... rows) {
        FallingGlass g = new FallingGlass();
        for (int[] row : rows) {
            g.day(row[0], row[1], row[2], row[3], row[4], row[5]);
        }
        return g;
    }

    private static void scoreBy(FallingGlass g, int keys, long upper, long lower) {
        int before = g.set(0, keys);
        edges.fraction("score by " + keys, g.score(6, 0), g.score(6, 1), upper, lower);
        g.set(0, before);
    }

    private static void bestEnds() {
        edges.of(18, "BEST KEYS (what = 0), BEST WEIGHT (1) ... OUTSIDE");
        FallingGlass g = book(new int[] {0, 0, 50, 0, 0, 1}, new int[] {1, 0, 50, 0, 0, 1});
        g.wire(0, 0);
        edges.is("best(0)", g.best(0), 0);
        edges.is("best(1)", g.best(1), 10);
        for (int what : new int[] {-1, 2, LEAST, MOST}) {
            edges.is("best(" + what + ")", g.best(what), -2);
        }
    }

    private static void noKeysEverSay() {
        edges.of(18, "NONE: it never says odds, of THE BOOK");
        FallingGlass g = new FallingGlass();
        edges.is("no DAYS", g.best(0), -6);
        g.day(3, 0, 50, 0, 0, 1);
        edges.is("one DAY", g.best(0), -6);
        g.day(3, 0, 50, 0, 0, 1);
        edges.is("one YEAR", g.best(0), -6);
        g.day(4, 0, 50, 0, 0, 1);
        edges.is("two YEARS", g.best(0), 0);
    }

    private static void eachKeyAlone() {
        edges.of(18, "those by which THE BOOK's mean SCORE is least: each key");
        int[][] dry = {{0, 0, 10, 0, 0, 0}, {0, 0, 59, 0, 0, 0}, {0, 0, 50, 0, 0, 0}, {0, 0, 50, 0, 0, 0},
            {0, 0, 50, 0, 0, 0}, {0, 0, 50, 0, 0, 0}};
        int[][] wet = {{0, 0, 90, 0, 0, 1}, {0, 0, 50, 0, 0, 1}, {0, 0, 50, 2, 0, 1}, {0, 0, 50, 0, 1, 1},
            {0, 3, 50, 0, 0, 1}, {0, 0, 50, 0, 0, 1}};
        for (int key = 0; key < 6; key++) {
            FallingGlass g = new FallingGlass();
            for (int i = 0; i < 8; i++) {
                int[] a = i % 2 == 0 ? dry[key] : wet[key];
                g.day(i / 4, a[1], a[2], a[3], a[4], a[5]);
            }
            edges.is("key " + (1 << key), g.best(0), 1 << key);
        }
    }

    private static void noKeys() {
        edges.of(18, "KEYS (bits 0 to 63): the least of them");
        FallingGlass g = book(new int[] {0, 0, 10, 0, 0, 1}, new int[] {1, 0, 30, 0, 0, 1});
        edges.is("alike or not, all wet", g.best(0), 0);
    }

    private static void allKeys() {
        edges.of(18, "KEYS (bits 0 to 63): the most of them");
        FallingGlass g = new FallingGlass();
        // Of each three: one without PRESS, one ahead, and one that differs from the first such in one key alone.
        int[][] rows = {{0, 50, 53, 0, 0, 0, 1, 0}, {1, 50, 53, 0, 0, 0, 1, 0}, {1, 39, 42, 0, 0, 0, 1, 1},
            {1, 50, 50, 0, 0, 0, 1, 1}, {1, 50, 53, 2, 0, 0, 1, 1}, {1, 50, 53, 0, 1, 0, 1, 1},
            {1, 50, 53, 0, 0, 3, 1, 1}, {1, 50, 53, 0, 0, 0, 0, 1}};
        for (int[] row : rows) {
            g.day(row[0], 9, -1, 6, 3, 0);
            g.day(row[0], 6, row[2], 4, 2, row[6]);
            g.day(row[0], row[5], row[1], row[3], row[4], row[7]);
        }
        edges.is("best(0)", g.best(0), 63);
        scoreBy(g, 63, 0, 1);
    }

    private static void leastMeanNotLeastSum() {
        edges.of(18, "mean SCORE is least [not the squares together]");
        FallingGlass g = book(new int[] {0, 0, -1, 2, 0, 1}, new int[] {0, 0, -1, 4, 0, 0},
            new int[] {1, 0, -1, 2, 0, 0}, new int[] {0, 0, -1, 4, 0, 1});
        // By no keys 2443556 by 4 DAYS, by wind 2000000 by 2.
        scoreBy(g, 0, 610889, 1);
        scoreBy(g, 4, 1000000, 1);
        edges.is("the least mean", g.best(0), 0);
    }

    private static void leastAsFraction() {
        edges.of(18, "(as a fraction ...)");
        FallingGlass g = book(new int[] {1, 0, 50, 2, 2, 0}, new int[] {1, 6, 50, 2, 1, 1},
            new int[] {1, 6, 50, 0, 1, 0}, new int[] {1, 6, 50, 2, 2, 0}, new int[] {0, 6, 50, 0, 1, 0},
            new int[] {0, 0, 50, 2, 1, 1}, new int[] {0, 6, 50, 0, 1, 1}, new int[] {1, 0, 50, 4, 1, 1},
            new int[] {0, 6, 50, 4, 0, 0});
        scoreBy(g, 18, 666667, 4);
        scoreBy(g, 24, 500000, 3);
        edges.is("166666 and two thirds are less than 166666 and three quarters", g.best(0), 24);
    }

    private static void silentKeysDoNotCount() {
        edges.of(18, "(... those that never say anything do not count)");
        FallingGlass g = book(new int[] {0, 0, 50, 0, 0, 1}, new int[] {1, 6, 50, 2, 1, 0});
        scoreBy(g, 0, 1000000, 1);
        g.set(0, 4);
        edges.is("by wind it never says anything", g.score(6, 0), FallingGlass.LOST - 5);
        edges.is("all wrong, but it says", g.best(0), 0);
    }

    private static void fewestKeys() {
        edges.of(18, "of several the fewest KEYS");
        // Wind and sky (4 and 8, together 12) tell the rain without a fault, and so does month (16).
        int[][] rows = {{0, 0, -1, 0, 0, 1}, {0, 6, -1, 0, 1, 0}, {0, 6, -1, 4, 0, 0}, {0, 0, -1, 4, 1, 1},
            {1, 0, -1, 0, 0, 1}, {1, 6, -1, 0, 1, 0}, {1, 6, -1, 4, 0, 0}, {1, 0, -1, 4, 1, 1}};
        FallingGlass g = book(rows);
        scoreBy(g, 12, 0, 1);
        scoreBy(g, 16, 0, 1);
        edges.is("one of the more bits", g.best(0), 16);
    }

    private static void leastAsBits() {
        edges.of(18, "then the least as bits");
        int[][] rows = {{0, 0, -1, 0, 0, 1}, {0, 6, -1, 4, 1, 0}, {1, 0, -1, 0, 0, 1}, {1, 6, -1, 4, 1, 0}};
        FallingGlass g = book(rows);
        scoreBy(g, 4, 0, 1);
        scoreBy(g, 8, 0, 1);
        scoreBy(g, 16, 0, 1);
        edges.is("of 4, 8, 16", g.best(0), 4);
    }

    private static void keysAreNotSet() {
        edges.of(18, "BEST KEYS [are told, not set]");
        FallingGlass g = book(new int[] {0, 0, 50, 0, 0, 1}, new int[] {1, 0, 50, 0, 0, 1});
        g.set(0, 63);
        edges.is("best(0)", g.best(0), 0);
        edges.is("told(4)", g.told(4), 63);
        edges.is("whichever are set", g.best(0), 0);
    }

    private static void keysAskedAgain() {
        edges.of(18, "BEST KEYS, of the DAYS that are there then");
        int[][] rows = {{0, 0, -1, 0, 0, 1}, {0, 0, -1, 4, 0, 0}, {1, 0, -1, 0, 0, 1}, {1, 0, -1, 4, 0, 0}};
        FallingGlass g = book(rows);
        edges.is("by wind", g.best(0), 4);
        for (int i = 0; i < 3; i++) {
            g.tear();
        }
        edges.is("one DAY", g.best(0), -6);
        g.day(1, 6, -1, 4, 0, 1);
        edges.is("all wet", g.best(0), 0);
        g.day(1, 6, -1, 0, 2, 0);
        edges.is("another", g.best(0), 8);
    }

    private static void keysOfFirstAndLastDay() {
        edges.of(18, "of all DAYS of which it says odds: DAY 0 and the last DAY");
        FallingGlass g = book(new int[] {1, 3, -1, 0, 0, 1}, new int[] {0, 0, -1, 0, 0, 1},
            new int[] {1, 3, -1, 2, 0, 0}, new int[] {2, 3, -1, 0, 0, 0});
        // Without DAY 0 these would be 16, without the last one 4.
        edges.is("best(0)", g.best(0), 0);
        FallingGlass h = book(new int[] {2, 3, -1, 2, 0, 0}, new int[] {0, 0, -1, 2, 0, 0},
            new int[] {1, 3, -1, 2, 0, 0}, new int[] {1, 0, -1, 2, 0, 1}, new int[] {0, 0, -1, 0, 0, 1});
        edges.is("best(0)", h.best(0), 16);
    }

    private static void keysOfSixtyDays() {
        edges.of(18, "of all DAYS: DAYS 0 to 59");
        FallingGlass g = new FallingGlass();
        for (int i = 0; i < 60; i++) {
            g.day(i / 6, 0, 50, 0, i % 2, i % 2);
        }
        edges.is("sky of 60", g.best(0), 8);
        FallingGlass ends = new FallingGlass();
        for (int i = 0; i < 60; i++) {
            boolean end = i == 0 || i == 59;
            ends.day(i == 59 ? 1 : 0, end ? 3 : 0, -1, end ? 2 : 0, 0, end ? 1 : 0);
        }
        edges.is("both ends tell of each other", ends.best(0), 4);
    }

    /** Two years of a wet and a dry day each: THE BOOK says 500 of all four. */
    private static FallingGlass halves(int... told) {
        FallingGlass g = book(new int[] {0, 0, 50, 0, 0, 1}, new int[] {0, 0, 50, 0, 0, 0},
            new int[] {1, 0, 50, 0, 0, 1}, new int[] {1, 0, 50, 0, 0, 0});
        for (int day = 0; day < told.length; day++) {
            g.wire(day, told[day]);
        }
        return g;
    }

    private static void noWeightEverSays() {
        edges.of(18, "NONE: it never says odds, of JOINED");
        edges.is("no DAYS", new FallingGlass().best(1), -6);
        edges.is("no WIRE", halves().best(1), -6);
        FallingGlass g = book(new int[] {0, 0, 50, 0, 0, 1}, new int[] {1, 0, 50, 4, 0, 1});
        g.wire(0, 500);
        edges.is("no SUCH DAY", g.best(1), -6);
    }

    private static void weightAtTheEnds() {
        edges.of(18, "WEIGHT (0 to 10 ...): the best at the ends");
        edges.is("THE WIRE alone", halves(1000, 0).best(1), 0);
        edges.is("THE BOOK alone", halves(0, 1000).best(1), 10);
        edges.is("one less than all THE WIRE", halves(1000, 0, 945).best(1), 0);
    }

    private static void weightAsFraction() {
        edges.of(18, "likewise of JOINED (as a fraction)");
        FallingGlass g = halves(524, 273, 373, 577);
        g.set(1, 6);
        edges.fraction("by 6", g.score(8, 0), g.score(8, 1), 992863, 4);
        g.set(1, 7);
        edges.fraction("by 7", g.score(8, 0), g.score(8, 1), 248215, 1);
        edges.is("best(1)", g.best(1), 7);
    }

    private static void leastWeightOfLikeOnes() {
        edges.of(18, "(the least WEIGHT of like ones)");
        edges.is("all alike", halves(500, 500).best(1), 0);
        // 502 on a dry DAY: 502 by WEIGHT 0, 501 by 1 to 5, 500 by 6 to 10.
        edges.is("6 to 10 alike", halves(-1, 502).best(1), 6);
        edges.is("1 to 10 alike", halves(-1, 501).best(1), 1);
        edges.is("0 to 4 alike", halves(-1, 498).best(1), 0);
    }

    private static void weightByTheKeysSet() {
        edges.of(18, "BEST WEIGHT: of JOINED, by the KEYS that are set");
        FallingGlass g = book(new int[] {0, 0, 50, 0, 0, 1}, new int[] {1, 0, 50, 0, 1, 1},
            new int[] {1, 0, 50, 2, 0, 0});
        g.wire(0, 500);
        edges.is("by wind THE BOOK is right", g.best(1), 10);
        g.set(0, 8);
        edges.is("by sky it is wrong", g.best(1), 0);
        g.set(0, 32);
        edges.is("by y it says nothing", g.best(1), -6);
    }

    private static void weightIsNotSet() {
        edges.of(18, "BEST WEIGHT [is told, not set]");
        FallingGlass g = halves(0, 1000);
        edges.is("best(1)", g.best(1), 10);
        edges.is("told(5)", g.told(5), 5);
        g.set(1, 0);
        edges.is("whichever is set", g.best(1), 10);
    }

    private static void weightOfTheLastDay() {
        edges.of(18, "of all DAYS: the last one too");
        FallingGlass g = halves(-1, -1, -1, 1000);
        edges.is("the last alone", g.best(1), 10);
        edges.is("the first alone", halves(0).best(1), 10);
    }

    private static void weightOfSixtyDays() {
        edges.of(18, "BEST WEIGHT, of DAYS 0 to 59");
        FallingGlass g = new FallingGlass();
        for (int i = 0; i < 60; i++) {
            g.day(i % 2, 0, 50, 0, 0, i % 2);
            g.wire(i, i % 2 == 0 ? 1000 : 0);
        }
        edges.is("both say the same: all alike", g.best(1), 0);
        for (int i = 0; i < 59; i++) {
            g.wire(i, -1);
        }
        g.wire(59, 1000);
        edges.is("THE WIRE of the last right", g.best(1), 0);
        g.tear();
        g.day(1, 0, 50, 0, 0, 0);
        g.wire(59, 1000);
        edges.is("THE BOOK of the last right", g.best(1), 10);
    }
}
