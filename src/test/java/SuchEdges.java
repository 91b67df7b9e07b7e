/** Promises 13 to 15, sentence by sentence: where such days, the wire and what is set begin and end. */
final class SuchEdges {
    private static final int LEAST = Integer.MIN_VALUE;
    private static final int MOST = Integer.MAX_VALUE;
    private static Edges edges;

    private SuchEdges() {
    }

    static void all(Edges its) {
        edges = its;
        suchEnds();
        suchOfUnknownDays();
        suchUnknownAheadOfOutside();
        inOtherYears();
        noKeys();
        pressByTwenty();
        fallInThreeKinds();
        windByTwo();
        windsBeginAgain();
        skyAsItIs();
        monthByThree();
        monthsBeginAgain();
        yesterdaysRain();
        withoutPressToNone();
        withoutFallToNone();
        withoutYesterdayToNone();
        allKeys();
        eachKeyCounts();
        suchOfSixtyDays();

        wireEnds();
        wireTellsWhichItWas();
        wireOfUnknownDays();
        wireUnknownAheadOfOutside();

        whichEnds();
        keysEnds();
        weightEnds();
        careEnds();
        setTellsWhichItWas();
    }

    // ---- promise 13

    private static FallingGlass byKeys(int keys) {
        FallingGlass g = new FallingGlass();
        g.set(0, keys);
        return g;
    }

    /** Whether two days of two years, that differ in one look alone, are such to each other by one key. */
    private static void alike(int keys, int what, int one, int other, boolean are) {
        FallingGlass g = byKeys(keys);
        for (int year = 0; year < 2; year++) {
            int v = year == 0 ? one : other;
            g.day(year, what == 3 ? v : 0, what == 0 ? v : 50, what == 1 ? v : 0, what == 2 ? v : 0, 1);
        }
        edges.is(one + " to " + other, g.such(0, 0), are ? 1 : 0);
        edges.is(other + " to " + one, g.such(1, 0), are ? 1 : 0);
    }

    private static void suchEnds() {
        edges.of(13, "SUCH DAYS in other YEARS (what = 0), those with RAIN (1)");
        FallingGlass g = new FallingGlass();
        g.day(0, 0, 50, 0, 0, 0);
        g.day(1, 0, 50, 0, 0, 0);
        g.day(1, 0, 50, 0, 0, 1);
        g.day(1, 0, 50, 1, 0, 0);
        edges.is("such(0, 0)", g.such(0, 0), 3);
        edges.is("such(0, 1)", g.such(0, 1), 1);
        edges.is("such(1, 1): its own rain does not count", g.such(2, 1), 0);
        for (int what : new int[] {-1, 2, LEAST, MOST}) {
            edges.is("such(0, " + what + ")", g.such(0, what), -2);
        }
    }

    private static void suchOfUnknownDays() {
        edges.of(13, "UNKNOWN (there is no such DAY)");
        FallingGlass g = new FallingGlass();
        edges.is("no DAYS", g.such(0, 0), -1);
        g.day(0, 0, 50, 0, 0, 0);
        g.day(1, 0, 50, 0, 0, 0);
        edges.is("DAY 0", g.such(0, 0), 1);
        edges.is("the last DAY", g.such(1, 0), 1);
        for (int day : new int[] {-1, 2, LEAST, MOST}) {
            edges.is("such(" + day + ", 0)", g.such(day, 0), -1);
        }
    }

    private static void suchUnknownAheadOfOutside() {
        edges.of(13, "the first of these that fits: UNKNOWN ahead of OUTSIDE");
        FallingGlass g = new FallingGlass();
        edges.is("such(0, 2)", g.such(0, 2), -1);
        g.day(0, 0, 50, 0, 0, 0);
        edges.is("such(1, -1)", g.such(1, -1), -1);
        edges.is("such(0, 2)", g.such(0, 2), -2);
    }

    private static void inOtherYears() {
        edges.of(13, "in other YEARS");
        FallingGlass g = byKeys(0);
        for (int year : new int[] {5, 5, 4, 6, 0, 9}) {
            g.day(year, 0, 50, 0, 0, 1);
        }
        edges.is("of 5, without both of 5", g.such(0, 0), 4);
        edges.is("wet ones", g.such(0, 1), 4);
        edges.is("of 9, without itself", g.such(5, 0), 5);
        edges.is("of 0, without itself", g.such(4, 0), 5);
    }

    private static void noKeys() {
        edges.of(13, "alike in the KEYS (bits 0 to 63), by no KEYS at all");
        FallingGlass g = byKeys(0);
        g.day(0, 0, -1, 0, 0, 0);
        g.day(1, 6, 99, 7, 3, 1);
        g.day(1, 11, 0, 4, 1, 0);
        edges.is("each of other YEARS", g.such(0, 0), 2);
        edges.is("wet ones", g.such(0, 1), 1);
        edges.is("one without PRESS too", g.such(1, 0), 1);
    }

    private static void pressByTwenty() {
        edges.of(13, "1 p by 20");
        alike(1, 0, 0, 19, true);
        alike(1, 0, 19, 20, false);
        alike(1, 0, 20, 39, true);
        alike(1, 0, 39, 40, false);
        alike(1, 0, 59, 60, false);
        alike(1, 0, 79, 80, false);
        alike(1, 0, 80, 99, true);
        alike(1, 0, 99, 0, false);
    }

    /** Two days of year 0 and two of year 1, the second of each by so much less than the first. */
    private static void falls(int one, int other, boolean are) {
        FallingGlass g = byKeys(2);
        g.day(0, 0, 99, 0, 0, 0);
        g.day(0, 0, 99 - one, 0, 0, 0);
        g.day(1, 0, -1, 0, 0, 0);
        g.day(1, 0, 99, 0, 0, 0);
        g.day(1, 0, 99 - other, 0, 0, 0);
        edges.is(one + " to " + other, g.such(1, 0), are ? 1 : 0);
        edges.is(other + " to " + one, g.such(4, 0), are ? 1 : 0);
    }

    private static void fallInThreeKinds() {
        edges.of(13, "2 what d is (0, 1 to 4, 5 and more)");
        falls(0, 0, true);
        falls(0, 1, false);
        falls(1, 4, true);
        falls(4, 5, false);
        falls(5, 6, true);
        falls(5, 99, true);
        falls(0, 5, false);
        FallingGlass g = byKeys(2);
        g.day(0, 0, 40, 0, 0, 0);
        g.day(0, 0, 90, 0, 0, 0);
        g.day(1, 0, -1, 0, 0, 0);
        g.day(1, 0, 40, 0, 0, 0);
        g.day(1, 0, 40, 0, 0, 0);
        edges.is("one that rises is as one that stays", g.such(1, 0), 1);
    }

    private static void windByTwo() {
        edges.of(13, "4 w by 2");
        for (int wind = 0; wind < 7; wind++) {
            alike(4, 1, wind, wind + 1, wind % 2 == 0);
        }
        alike(4, 1, 3, 3, true);
    }

    private static void windsBeginAgain() {
        edges.of(13, "4 w by 2, where the winds begin again");
        alike(4, 1, 7, 0, false);
        alike(4, 1, 6, 7, true);
        alike(4, 1, 0, 1, true);
        alike(4, 1, 6, 0, false);
    }

    private static void skyAsItIs() {
        edges.of(13, "8 s");
        for (int one = 0; one < 4; one++) {
            for (int other = 0; other < 4; other++) {
                alike(8, 2, one, other, one == other);
            }
        }
    }

    private static void monthByThree() {
        edges.of(13, "16 m by 3");
        for (int month = 0; month < 11; month++) {
            alike(16, 3, month, month + 1, month % 3 != 2);
        }
        alike(16, 3, 9, 11, true);
        alike(16, 3, 0, 2, true);
    }

    private static void monthsBeginAgain() {
        edges.of(13, "16 m by 3, where the months begin again");
        alike(16, 3, 11, 0, false);
        alike(16, 3, 9, 0, false);
    }

    private static void yesterdaysRain() {
        edges.of(13, "32 y");
        FallingGlass g = byKeys(32);
        int[] rains = {1, 0, 1, 1, 0};
        for (int i = 0; i < rains.length; i++) {
            g.day(i, 0, 50, 0, 0, rains[i]);
        }
        // y of DAYS 1 to 4: 1, 0, 1, 1
        int[] due = {0, 2, 0, 2, 2};
        for (int day = 0; day < due.length; day++) {
            edges.is("such(" + day + ", 0)", g.such(day, 0), due[day]);
        }
    }

    private static void withoutPressToNone() {
        edges.of(13, "a DAY that has not one of these is SUCH to none: p");
        alike(1, 0, -1, -1, false);
        alike(1, 0, -1, 0, false);
        alike(1, 0, -1, 19, false);
        alike(1, 0, -1, 99, false);
        alike(5, 0, -1, 50, false);
        alike(4, 0, -1, 50, true);
    }

    private static void withoutFallToNone() {
        edges.of(13, "a DAY that has not one of these is SUCH to none: d");
        FallingGlass g = byKeys(2);
        g.day(0, 0, 50, 0, 0, 0);
        g.day(1, 0, 50, 0, 0, 0);
        g.day(2, 0, -1, 0, 0, 0);
        g.day(3, 0, 50, 0, 0, 0);
        for (int day = 0; day < 4; day++) {
            edges.is("such(" + day + ", 0)", g.such(day, 0), 0);
        }
        g.day(4, 0, 50, 0, 0, 0);
        edges.is("two that have it", g.such(1, 0), 1);
        edges.is("two that have it", g.such(4, 0), 1);
        edges.is("DAY 0 still", g.such(0, 0), 0);
    }

    private static void withoutYesterdayToNone() {
        edges.of(13, "a DAY that has not one of these is SUCH to none: y");
        for (int rain = 0; rain < 2; rain++) {
            FallingGlass g = byKeys(32);
            g.day(0, 0, 50, 0, 0, rain);
            g.day(1, 0, 50, 0, 0, 0);
            edges.is("DAY 0, such(0, 0)", g.such(0, 0), 0);
            edges.is("to DAY 0, such(1, 0)", g.such(1, 0), 0);
        }
    }

    /** Four days: the second one and the last one are alike in all keys, or differ in one look, as told. */
    private static int suchByAll(int keys, int pressAhead, int press, int wind, int sky, int month, int rainAhead) {
        FallingGlass g = byKeys(keys);
        g.day(0, 0, 53, 0, 0, 1);
        g.day(0, 3, 50, 2, 1, 0);
        g.day(1, 0, pressAhead, 0, 0, rainAhead);
        g.day(1, month, press, wind, sky, 0);
        return g.such(1, 0);
    }

    private static void allKeys() {
        edges.of(13, "alike in the KEYS (bits 0 to 63), by all of them");
        edges.is("alike in all", suchByAll(63, 50, 49, 3, 1, 5, 1), 1);
        edges.is("not in p", suchByAll(63, 40, 39, 3, 1, 5, 1), 0);
        edges.is("not in d", suchByAll(63, 49, 49, 3, 1, 5, 1), 0);
        edges.is("not in w", suchByAll(63, 50, 49, 4, 1, 5, 1), 0);
        edges.is("not in s", suchByAll(63, 50, 49, 3, 2, 5, 1), 0);
        edges.is("not in m", suchByAll(63, 50, 49, 3, 1, 6, 1), 0);
        edges.is("not in y", suchByAll(63, 50, 49, 3, 1, 5, 0), 0);
    }

    private static void eachKeyCounts() {
        edges.of(13, "alike in the KEYS [that are set, in no others]");
        edges.is("all but p", suchByAll(62, 40, 39, 3, 1, 5, 1), 1);
        edges.is("all but d", suchByAll(61, 49, 49, 3, 1, 5, 1), 1);
        edges.is("all but w", suchByAll(59, 50, 49, 4, 1, 5, 1), 1);
        edges.is("all but s", suchByAll(55, 50, 49, 3, 2, 5, 1), 1);
        edges.is("all but m", suchByAll(47, 50, 49, 3, 1, 6, 1), 1);
        edges.is("all but y", suchByAll(31, 50, 49, 3, 1, 5, 0), 1);
    }

    private static void suchOfSixtyDays() {
        edges.of(13, "of all DAYS: DAYS 0 to 59");
        FallingGlass g = byKeys(0);
        for (int i = 0; i < 60; i++) {
            g.day(i == 59 ? 1 : i == 0 ? 2 : 0, 0, 50, 0, 0, i == 0 || i == 59 ? 1 : 0);
        }
        edges.is("of DAY 0 all others", g.such(0, 0), 59);
        edges.is("of DAY 59 all others", g.such(59, 0), 59);
        edges.is("of DAY 30 both ends", g.such(30, 0), 2);
        edges.is("both are wet", g.such(30, 1), 2);
        edges.is("such(60, 0)", g.such(60, 0), -1);
    }

    // ---- promise 14

    private static FallingGlass twoDays() {
        FallingGlass g = new FallingGlass();
        g.day(0, 0, 50, 0, 0, 0);
        g.day(0, 0, 50, 0, 0, 0);
        return g;
    }

    private static void wireEnds() {
        edges.of(14, "(0 to 1000; ...) (-1: nothing)");
        FallingGlass g = twoDays();
        for (int v : new int[] {0, 1000}) {
            g.wire(0, v);
            edges.is("odds(7, 0)", g.odds(7, 0), v);
        }
        for (int v : new int[] {-2, 1001, LEAST, MOST}) {
            edges.is("wire(0, " + v + ")", g.wire(0, v), -2);
            edges.is("odds(7, 0)", g.odds(7, 0), 1000);
        }
        g.wire(0, -1);
        edges.is("odds(7, 0)", g.odds(7, 0), -6);
    }

    private static void wireTellsWhichItWas() {
        edges.of(14, "which it was (NONE)");
        FallingGlass g = twoDays();
        edges.is("at first", g.wire(0, -1), -6);
        edges.is("after nothing", g.wire(0, 0), -6);
        edges.is("after 0", g.wire(0, 1000), 0);
        edges.is("after 1000", g.wire(0, -1), 1000);
        edges.is("after nothing again", g.wire(0, 7), -6);
        edges.is("of the other DAY", g.wire(1, 8), -6);
        edges.is("after 7", g.wire(0, 7), 7);
    }

    private static void wireOfUnknownDays() {
        edges.of(14, "UNKNOWN (there is no such DAY)");
        edges.is("no DAYS", new FallingGlass().wire(0, 0), -1);
        FallingGlass g = twoDays();
        edges.is("the last DAY", g.wire(1, 500), -6);
        for (int day : new int[] {-1, 2, LEAST, MOST}) {
            edges.is("wire(" + day + ", 0)", g.wire(day, 0), -1);
        }
        FallingGlass full = new FallingGlass();
        for (int i = 0; i < 60; i++) {
            full.day(0, 0, 50, 0, 0, 0);
        }
        edges.is("the last DAY of 60", full.wire(59, 1), -6);
        edges.is("the one behind it", full.wire(60, 1), -1);
        edges.is("odds(7, 59)", full.odds(7, 59), 1);
    }

    private static void wireUnknownAheadOfOutside() {
        edges.of(14, "the first of these that fits: UNKNOWN ahead of OUTSIDE");
        FallingGlass g = twoDays();
        edges.is("wire(2, 1001)", g.wire(2, 1001), -1);
        edges.is("wire(-1, -2)", g.wire(-1, -2), -1);
        edges.is("wire(1, 1001)", g.wire(1, 1001), -2);
    }

    // ---- promise 15

    private static void whichEnds() {
        edges.of(15, "0 KEYS, 1 WEIGHT, 2 CARE; OUTSIDE");
        FallingGlass g = new FallingGlass();
        edges.is("set(0, 6)", g.set(0, 6), 4);
        edges.is("set(1, 7)", g.set(1, 7), 5);
        edges.is("set(2, 8)", g.set(2, 8), 3);
        for (int which : new int[] {-1, 3, LEAST, MOST}) {
            edges.is("set(" + which + ", 1)", g.set(which, 1), -2);
        }
        for (int which = 0; which < 3; which++) {
            edges.is("told", g.told(4 + which), 6 + which);
        }
    }

    private static void setEnds(int which, int most) {
        FallingGlass g = new FallingGlass();
        for (int v : new int[] {0, most}) {
            g.set(which, v);
            edges.is("told", g.told(4 + which), v);
        }
        for (int v : new int[] {-1, most + 1, LEAST, MOST}) {
            edges.is("set(" + which + ", " + v + ")", g.set(which, v), -2);
            edges.is("told", g.told(4 + which), most);
        }
    }

    private static void keysEnds() {
        edges.of(15, "KEYS (bits 0 to 63; ...)");
        setEnds(0, 63);
    }

    private static void weightEnds() {
        edges.of(15, "WEIGHT (0 to 10; ...)");
        setEnds(1, 10);
    }

    private static void careEnds() {
        edges.of(15, "CARE (0 to 20; ...)");
        setEnds(2, 20);
    }

    private static void setTellsWhichItWas() {
        edges.of(15, "which it was");
        FallingGlass g = new FallingGlass();
        int[] first = {4, 5, 3};
        for (int which = 0; which < 3; which++) {
            edges.is("at first", g.set(which, 0), first[which]);
            edges.is("after 0", g.set(which, 9), 0);
            edges.is("after 9", g.set(which, 9), 9);
        }
    }
}
