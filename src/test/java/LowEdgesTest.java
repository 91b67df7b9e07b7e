/** Promises 24 to 33, sentence by sentence: where the low, hay, belief, images and what is told begin and end. */
public final class LowEdgesTest {
    private static final int LEAST = Integer.MIN_VALUE;
    private static final int MOST = Integer.MAX_VALUE;
    private static final long LOST = FallingGlass.LOST;
    private static final Edges EDGES = new Edges("LowEdgesTest");

    public static void main(String[] args) {
        glassPlaceEnds();
        glassPressEnds();
        glassWindEnds();
        fourLooks();
        glassOutsideAheadOfFull();
        clearTells();
        roomAfterClearing();

        mayPlaceEnds();
        mayOfAllPlaces();
        mayWithoutLooks();
        deepEnds();
        pressIsNinetyFarAway();
        farIsTheGreater();
        eightOfAMiddlePlace();
        eightOfTheCorners();
        nowhereForItsOwnPlace();
        windsBeginAgain();
        careOfThree();
        careOfNought();
        careOfTwenty();
        allLooksMustFit();
        nothingFits();

        lowPlaceEnds();
        lowPartEnds();
        lowNothingFits();
        lowOutsideAheadOfNo();
        lowLowestTerms();
        lowAtTheEnds();
        lowByFourLooks();

        HayEdges.all(EDGES);
        ImageEdges.all(EDGES);
        EDGES.end(24, 33);
    }

    private static FallingGlass careful(int care) {
        FallingGlass g = new FallingGlass();
        g.set(2, care);
        return g;
    }

    /** With one look of a glass. */
    private static FallingGlass looking(int care, int x, int y, int press, int wind) {
        FallingGlass g = careful(care);
        g.glass(x, y, press, wind);
        return g;
    }

    // ---- promises 24 and 25

    /** One number of a look at its least, its most and beside both. */
    private static void glassEnds(int place, int most) {
        for (int v : new int[] {0, most}) {
            int[] a = {4, 4, 80, 6};
            a[place] = v;
            EDGES.is("glass with " + v, new FallingGlass().glass(a[0], a[1], a[2], a[3]), 1);
        }
        for (int v : new int[] {-1, most + 1, LEAST, MOST}) {
            int[] a = {4, 4, 80, 6};
            a[place] = v;
            FallingGlass g = new FallingGlass();
            EDGES.is("glass with " + v, g.glass(a[0], a[1], a[2], a[3]), -2);
            EDGES.is("looks", g.told(7), 0);
        }
    }

    private static void glassPlaceEnds() {
        EDGES.of(24, "OUTSIDE: x, y 0 to 8");
        glassEnds(0, 8);
        glassEnds(1, 8);
    }

    private static void glassPressEnds() {
        EDGES.of(24, "OUTSIDE: ... PRESS [0 to 99]");
        glassEnds(2, 99);
    }

    private static void glassWindEnds() {
        EDGES.of(24, "OUTSIDE: ... WIND [0 to 7]");
        glassEnds(3, 7);
    }

    private static void fourLooks() {
        EDGES.of(24, "LOOKS, 4 at most; FULL");
        FallingGlass g = new FallingGlass();
        for (int n = 1; n <= 4; n++) {
            EDGES.is("glass", g.glass(4, 4, 80, 6), n);
        }
        EDGES.is("the fifth", g.glass(4, 4, 80, 6), -4);
        EDGES.is("told(7)", g.told(7), 4);
    }

    private static FallingGlass fullOfLooks() {
        FallingGlass g = new FallingGlass();
        for (int n = 1; n <= 4; n++) {
            g.glass(4, 4, 80, 6);
        }
        return g;
    }

    private static void glassOutsideAheadOfFull() {
        EDGES.of(24, "the first of these that fits: OUTSIDE ahead of FULL");
        FallingGlass g = fullOfLooks();
        EDGES.is("x 9", g.glass(9, 0, 0, 0), -2);
        EDGES.is("y -1", g.glass(0, -1, 0, 0), -2);
        EDGES.is("PRESS 100", g.glass(0, 0, 100, 0), -2);
        EDGES.is("WIND 8", g.glass(0, 0, 0, 8), -2);
        EDGES.is("none of these", g.glass(0, 0, 0, 0), -4);
    }

    private static void clearTells() {
        EDGES.of(25, "how many there were");
        EDGES.is("none", new FallingGlass().clear(), 0);
        EDGES.is("one", looking(3, 0, 0, 0, 0).clear(), 1);
        FallingGlass g = fullOfLooks();
        EDGES.is("the most", g.clear(), 4);
        EDGES.is("again", g.clear(), 0);
    }

    private static void roomAfterClearing() {
        EDGES.of(25, "LOOKS go");
        FallingGlass g = fullOfLooks();
        g.clear();
        EDGES.is("told(7)", g.told(7), 0);
        EDGES.is("all ways again", g.may(-1, 0), 729);
        for (int n = 1; n <= 4; n++) {
            EDGES.is("glass", g.glass(4, 4, 90, 2), n);
        }
        EDGES.is("not N any more", g.may(4, 8), 0);
        EDGES.is("S now: DEEP 1 to 3", g.may(4, 0), 3);
    }

    // ---- promise 26

    private static void mayPlaceEnds() {
        EDGES.of(26, "81 places (x, y 0 to 8 ...). OUTSIDE");
        FallingGlass g = new FallingGlass();
        for (int v : new int[] {0, 8}) {
            EDGES.is("may(" + v + ", 4)", g.may(v, 4), 9);
            EDGES.is("may(4, " + v + ")", g.may(4, v), 9);
        }
        for (int v : new int[] {-2, 9, LEAST, MOST}) {
            EDGES.is("may(" + v + ", 4)", g.may(v, 4), -2);
            EDGES.is("may(4, " + v + ")", g.may(4, v), -2);
        }
        EDGES.is("may(4, -1)", g.may(4, -1), -2);
    }

    private static void mayOfAllPlaces() {
        EDGES.of(26, "all of them (x = -1; y is not looked at)");
        FallingGlass g = looking(0, 4, 4, 8, 6);
        for (int y : new int[] {-1, 0, 8, 9, LEAST, MOST}) {
            EDGES.is("may(-1, " + y + ")", g.may(-1, y), 1);
        }
        int sum = 0;
        FallingGlass wide = looking(20, 0, 0, 75, 7);
        for (int place = 0; place < 81; place++) {
            sum += wide.may(place % 9, place / 9);
        }
        EDGES.is("all of 81 places together", wide.may(-1, 0), sum);
    }

    private static void mayWithoutLooks() {
        EDGES.of(26, "ways (place and DEEP) that fit all [no LOOKS]");
        FallingGlass g = new FallingGlass();
        EDGES.is("all", g.may(-1, 0), 729);
        int sum = 0;
        for (int place = 0; place < 81; place++) {
            sum += g.may(place % 9, place / 9);
        }
        EDGES.is("9 of each place", sum, 729);
        EDGES.is("of a corner", g.may(8, 8), 9);
    }

    private static void deepEnds() {
        EDGES.of(26, "as DEEP as 1 to 9");
        EDGES.is("DEEP 1 at FAR 1: 88", looking(0, 4, 4, 88, 6).may(4, 5), 1);
        EDGES.is("90 would be DEEP 0", looking(0, 4, 4, 90, 6).may(4, 5), 0);
        EDGES.is("DEEP 9 at FAR 2: 16", looking(0, 4, 4, 16, 6).may(4, 6), 1);
        EDGES.is("6 would be DEEP 10", looking(0, 4, 4, 6, 6).may(4, 6), 0);
        EDGES.is("DEEP 9 at FAR 1: 8", looking(0, 4, 4, 8, 6).may(4, 5), 1);
    }

    private static void pressIsNinetyFarAway() {
        EDGES.of(26, "PRESS at a place: 90 less what ((10 times DEEP) less (8 times FAR)) is above 0");
        EDGES.is("FAR 5: DEEP 4 is 0, 1 to 3 are below", looking(0, 4, 0, 90, 6).may(4, 5), 4);
        EDGES.is("FAR 5: DEEP 5 is 10 above", looking(0, 4, 0, 80, 6).may(4, 5), 1);
        EDGES.is("FAR 4: DEEP 3 is 2 below, not 92", looking(0, 4, 0, 92, 6).may(4, 4), 0);
        EDGES.is("FAR 4: DEEP 1 to 3", looking(0, 4, 0, 90, 6).may(4, 4), 3);
        EDGES.is("FAR 8: DEEP 1 to 6", looking(0, 4, 0, 90, 6).may(4, 8), 6);
        EDGES.is("FAR 1: none", looking(0, 4, 0, 90, 6).may(4, 1), 0);
        EDGES.is("FAR 2: DEEP 1", looking(0, 4, 0, 90, 6).may(4, 2), 1);
    }

    private static void farIsTheGreater() {
        EDGES.of(26, "FAR: the greater of both differences");
        EDGES.is("1 and 3", looking(0, 4, 4, 24, 6).may(5, 7), 1);
        EDGES.is("3 and 1", looking(0, 4, 4, 24, 0).may(7, 5), 1);
        EDGES.is("-1 and -3", looking(0, 4, 4, 24, 2).may(3, 1), 1);
        EDGES.is("-3 and 1", looking(0, 4, 4, 24, 4).may(1, 5), 1);
        EDGES.is("3 and 3", looking(0, 4, 4, 24, 7).may(7, 7), 1);
        EDGES.is("0 and 3", looking(0, 4, 4, 24, 6).may(4, 7), 1);
        EDGES.is("1 and 4", looking(0, 4, 4, 24, 6).may(5, 8), 0);
    }

    /** From a glass that looks with a wide care, the places towards each of the eight; y from the uppermost row on. */
    private static void towards(int gx, int gy, String... rows) {
        for (int wind = 0; wind < 8; wind++) {
            FallingGlass g = looking(20, gx, gy, 75, wind);
            char eighth = (char) ('0' + (wind + 2) % 8);
            for (int place = 0; place < 81; place++) {
                int x = place % 9;
                int y = place / 9;
                boolean lies = rows[8 - y].charAt(x) == eighth;
                EDGES.is("wind " + wind + ", low at " + x + " " + y, g.may(x, y) > 0 ? 1 : 0, lies ? 1 : 0);
            }
        }
    }

    private static void eightOfAMiddlePlace() {
        EDGES.of(26, "(N or S, if the difference of x times 2 is less than that of y; E or W the other way round; else between");
        towards(4, 4,
            "777000111",
            "777000111",
            "777701111",
            "667701122",
            "6666.2222",
            "665543322",
            "555543333",
            "555444333",
            "555444333");
    }

    private static void eightOfTheCorners() {
        EDGES.of(26, "one of eight (N, NE, E, ... NW ...), from the corners");
        towards(0, 0,
            "000011111",
            "000011111",
            "000111111",
            "000111111",
            "001111111",
            "001111122",
            "011112222",
            "011222222",
            ".22222222");
        towards(8, 0,
            "777770000",
            "777770000",
            "777777000",
            "777777000",
            "777777700",
            "667777700",
            "666677770",
            "666666770",
            "66666666.");
        towards(8, 8,
            "66666666.",
            "666666554",
            "666655554",
            "665555544",
            "555555544",
            "555555444",
            "555555444",
            "555554444",
            "555554444");
        towards(0, 8,
            ".22222222",
            "433222222",
            "433332222",
            "443333322",
            "443333333",
            "444333333",
            "444333333",
            "444433333",
            "444433333");
    }

    private static void nowhereForItsOwnPlace() {
        EDGES.of(26, "nowhere for its own place");
        for (int wind = 0; wind < 8; wind++) {
            for (int press : new int[] {0, 20, 50, 80}) {
                EDGES.is("wind " + wind, looking(20, 4, 4, press, wind).may(4, 4), 0);
            }
        }
    }

    private static void windsBeginAgain() {
        EDGES.of(26, "(two eighths on from where it blows: wind from W, it lies N)");
        int[][] places = {{4, 6}, {6, 6}, {6, 4}, {6, 2}, {4, 2}, {2, 2}, {2, 4}, {2, 6}};
        int[] from = {6, 7, 0, 1, 2, 3, 4, 5};
        for (int eighth = 0; eighth < 8; eighth++) {
            for (int wind = 0; wind < 8; wind++) {
                int[] place = places[eighth];
                EDGES.is("wind " + wind + " to eighth " + eighth, looking(0, 4, 4, 16, wind).may(place[0], place[1]),
                    wind == from[eighth] ? 1 : 0);
            }
        }
    }

    private static void careOfThree() {
        EDGES.of(26, "give or take CARE (... 3 at first)");
        // DEEP 1 and 9 at FAR 1 give 88 and 8, the next ones 78 and 18.
        FallingGlass g = new FallingGlass();
        int[][] due = {{91, 1}, {92, 0}, {85, 1}, {84, 0}, {81, 1}, {82, 0}, {5, 1}, {4, 0}, {11, 1}, {12, 0}};
        for (int[] row : due) {
            g.clear();
            g.glass(4, 4, row[0], 6);
            EDGES.is("PRESS " + row[0], g.may(4, 5), row[1]);
        }
    }

    private static void careOfNought() {
        EDGES.of(26, "give or take CARE (0 to 20 ...): the least");
        EDGES.is("PRESS 88", looking(0, 4, 4, 88, 6).may(4, 5), 1);
        EDGES.is("PRESS 87", looking(0, 4, 4, 87, 6).may(4, 5), 0);
        EDGES.is("PRESS 89", looking(0, 4, 4, 89, 6).may(4, 5), 0);
    }

    private static void careOfTwenty() {
        EDGES.of(26, "give or take CARE (0 to 20 ...): the most");
        EDGES.is("24 is 20 from 4", looking(20, 4, 4, 4, 6).may(4, 7), 1);
        EDGES.is("24 is 21 from 3", looking(20, 4, 4, 3, 6).may(4, 7), 0);
        EDGES.is("88 and 78 are 20 or less from 98", looking(20, 4, 4, 98, 6).may(4, 5), 2);
        EDGES.is("78 is 21 from 99", looking(20, 4, 4, 99, 6).may(4, 5), 1);
        EDGES.is("68 to 28 are 20 or less from 48", looking(20, 4, 4, 48, 6).may(4, 5), 5);
    }

    private static void allLooksMustFit() {
        EDGES.of(26, "ways ... that fit all: each of 4 LOOKS");
        // A low at (4, 4), DEEP 9, seen from four sides: FAR 3 gives 24, FAR 4 gives 32.
        int[][] looks = {{4, 1, 24, 6}, {1, 4, 24, 0}, {4, 8, 32, 2}, {8, 4, 32, 4}};
        FallingGlass g = careful(0);
        for (int[] look : looks) {
            g.glass(look[0], look[1], look[2], look[3]);
            EDGES.is("it fits", g.may(4, 4), 1);
        }
        for (int off = 0; off < 4; off++) {
            g.clear();
            for (int i = 0; i < 4; i++) {
                g.glass(looks[i][0], looks[i][1], looks[i][2] + (i == off ? 1 : 0), looks[i][3]);
            }
            EDGES.is("PRESS of look " + off + " is one off", g.may(4, 4), 0);
            g.clear();
            for (int i = 0; i < 4; i++) {
                g.glass(looks[i][0], looks[i][1], looks[i][2], (looks[i][3] + (i == off ? 1 : 0)) % 8);
            }
            EDGES.is("WIND of look " + off + " is one off", g.may(4, 4), 0);
        }
    }

    private static void nothingFits() {
        EDGES.of(26, "ways ... that fit all: none");
        FallingGlass g = looking(0, 0, 0, 0, 0);
        EDGES.is("all", g.may(-1, 0), 0);
        EDGES.is("a place", g.may(8, 0), 0);
    }

    // ---- promise 27

    private static void lowIs(String call, FallingGlass g, int x, int y, long upper, long lower) {
        EDGES.fraction(call, g.low(x, y, 0), g.low(x, y, 1), upper, lower);
    }

    private static void lowPlaceEnds() {
        EDGES.of(27, "ODDS of a place (x, y 0 to 8). OUTSIDE (LOST less 2)");
        FallingGlass g = new FallingGlass();
        for (int v : new int[] {0, 8}) {
            lowIs("x " + v, g, v, 4, 1, 81);
            lowIs("y " + v, g, 4, v, 1, 81);
        }
        for (int v : new int[] {-1, 9, LEAST, MOST}) {
            EDGES.is("low(" + v + ", 4, 0)", g.low(v, 4, 0), LOST - 2);
            EDGES.is("low(4, " + v + ", 0)", g.low(4, v, 0), LOST - 2);
        }
    }

    private static void lowPartEnds() {
        EDGES.of(27, "Fractions are told by part: 0 the upper, 1 the lower number. OUTSIDE (LOST less 2)");
        FallingGlass g = new FallingGlass();
        EDGES.is("low(4, 4, 0)", g.low(4, 4, 0), 1);
        EDGES.is("low(4, 4, 1)", g.low(4, 4, 1), 81);
        for (int part : new int[] {-1, 2, LEAST, MOST}) {
            EDGES.is("low(4, 4, " + part + ")", g.low(4, 4, part), LOST - 2);
        }
    }

    private static void lowNothingFits() {
        EDGES.of(27, "NO: nothing fits (LOST less ... 5)");
        FallingGlass g = looking(0, 0, 0, 0, 0);
        EDGES.is("low(8, 0, 0)", g.low(8, 0, 0), LOST - 5);
        EDGES.is("low(8, 0, 1)", g.low(8, 0, 1), LOST - 5);
        g.clear();
        EDGES.is("after clear()", g.low(8, 0, 1), 81);
    }

    private static void lowOutsideAheadOfNo() {
        EDGES.of(27, "the first of these that fits: OUTSIDE ahead of NO");
        FallingGlass g = looking(0, 0, 0, 0, 0);
        EDGES.is("x -1", g.low(-1, 0, 0), LOST - 2);
        EDGES.is("y 9", g.low(0, 9, 0), LOST - 2);
        EDGES.is("part 2", g.low(0, 0, 2), LOST - 2);
    }

    private static void lowLowestTerms() {
        EDGES.of(27, "its ways by all, in lowest terms");
        // N of (4, 4) with PRESS 90: 1 way at FAR 2, 2 at each of 3 places, 3 at each of 3: 16 in all.
        FallingGlass g = looking(0, 4, 4, 90, 6);
        EDGES.is("all", g.may(-1, 0), 16);
        lowIs("1 of 16", g, 4, 6, 1, 16);
        lowIs("2 of 16", g, 5, 7, 1, 8);
        lowIs("3 of 16", g, 3, 8, 3, 16);
    }

    private static void lowAtTheEnds() {
        EDGES.of(27, "its ways by all: none of them, all of them");
        FallingGlass g = looking(0, 4, 4, 8, 6);
        lowIs("all", g, 4, 5, 1, 1);
        lowIs("none", g, 4, 4, 0, 1);
        lowIs("none", g, 8, 8, 0, 1);
    }

    private static void lowByFourLooks() {
        EDGES.of(27, "its ways by all, that fit all of 4 LOOKS");
        FallingGlass g = looking(0, 4, 4, 90, 6);
        for (int look = 2; look <= 3; look++) {
            g.glass(4, 4, 90, 6);
            lowIs("alike", g, 4, 7, 1, 8);
        }
        // S of (4, 8) with PRESS 90, and N of (4, 4): DEEP 1 at FAR 2 from both.
        g.glass(4, 8, 90, 2);
        lowIs("all", g, 4, 6, 1, 1);
        lowIs("none any more", g, 4, 7, 0, 1);
    }
}
