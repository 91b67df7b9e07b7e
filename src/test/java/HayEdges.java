/** Promises 28 to 30, sentence by sentence: where hay and belief begin and end. */
final class HayEdges {
    private static final int LEAST = Integer.MIN_VALUE;
    private static final int MOST = Integer.MAX_VALUE;
    private static final int GONE = FallingGlass.GONE;
    private static Edges edges;

    private HayEdges() {
    }

    static void all(Edges its) {
        edges = its;
        for (int promise = 28; promise <= 29; promise++) {
            numberOfDays(promise);
            oddsOfSoManyDigits(promise);
            dayEnds(promise);
            dryDaysEnd(promise);
            gainEnds(promise);
            lossEnds(promise);
            costEnds(promise);
        }
        noughtsAhead();
        behindTheLastDay();
        notLaterThanItEnds();
        moreDryDaysThanDays();
        neverBelowNought();
        oddsOfDryTogether();
        lostIfNotDry();
        greatestStakes();
        eachWaitedDayCosts();
        waitingForNothing();
        nineDays();

        givesUpFirst();
        cutsAheadOfWaiting();
        waitsIfBetter();
        doesBehindTheLastDay();
        doesOnTheLastDayToCut();

        believedTellerEnds();
        believedGainEnds();
        believedLossEnds();
        believedFirstRefusal();
        moreThanLoss();
        sureOdds();
        noStakes();
        nothingSaid();
        gainIfDryLossIfWet();
        believedOfSixtyDays();
    }

    // ---- promises 28 and 29

    private static int ask(int promise, int... a) {
        FallingGlass g = new FallingGlass();
        return promise == 28 ? g.hay(a[0], a[1], a[2], a[3], a[4], a[5], a[6])
            : g.does(a[0], a[1], a[2], a[3], a[4], a[5], a[6]);
    }

    private static void hayIs(String call, int value, int... a) {
        edges.is(call, ask(28, a), value);
    }

    private static void doesIs(String call, int choice, int... a) {
        edges.is(call, ask(29, a), choice);
    }

    /** One of the seven numbers at its least, its most and beside both, the others being so that a dry day is cut on. */
    private static void ends(int promise, int place, int least, int most) {
        for (int v : new int[] {least, most}) {
            int[] a = {0, 3, 0, 1, 10, 10, 10};
            a[place] = v;
            edges.is("with " + v + " is not refused", ask(promise, a) >= 0 ? 1 : 0, 1);
        }
        for (int v : new int[] {least - 1, most + 1, LEAST, MOST}) {
            int[] a = {0, 3, 0, 1, 10, 10, 10};
            a[place] = v;
            edges.is("with " + v, ask(promise, a), -2);
        }
    }

    private static void numberOfDays(int promise) {
        edges.of(promise, "of 1 to 9 DAYS; OUTSIDE: ... (n 1 to 9 ...)");
        ends(promise, 1, 1, 9);
    }

    private static void oddsOfSoManyDigits(int promise) {
        edges.of(promise, "as a number of that many digits; OUTSIDE: odds of so many digits");
        int ten = 1;
        for (int n = 1; n <= 9; n++) {
            ten *= 10;
            edges.is("0 of " + n, ask(promise, 0, n, 0, 1, 10, 10, 10), promise == 28 ? 10000 : 1);
            edges.is(n + " times 9", ask(promise, ten - 1, n, 0, 1, 10, 10, 10), 0);
            edges.is("1 and " + n + " times 0", ask(promise, ten, n, 0, 1, 10, 10, 10), -2);
            edges.is("-1 of " + n, ask(promise, -1, n, 0, 1, 10, 10, 10), -2);
            edges.is("the most of " + n, ask(promise, MOST, n, 0, 1, 10, 10, 10), -2);
            edges.is("the least of " + n, ask(promise, LEAST, n, 0, 1, 10, 10, 10), -2);
        }
    }

    private static void dayEnds(int promise) {
        edges.of(promise, "VALUE from a DAY on (0 to how many DAYS ...). OUTSIDE: ... DAY");
        for (int n = 1; n <= 9; n++) {
            edges.is("0 of " + n, ask(promise, 0, n, 0, 1, 10, 10, 10) > 0 ? 1 : 0, 1);
            edges.is("the last of " + n, ask(promise, 0, n, n - 1, 1, 10, 10, 10) > 0 ? 1 : 0, 1);
            edges.is("behind the last of " + n, ask(promise, 0, n, n, 1, 10, 10, 10), 0);
            for (int day : new int[] {-1, n + 1, LEAST, MOST}) {
                edges.is("DAY " + day + " of " + n, ask(promise, 0, n, day, 1, 10, 10, 10), -2);
            }
        }
    }

    private static void dryDaysEnd(int promise) {
        edges.of(promise, "It needs k dry DAYS (1 to 3). OUTSIDE: ... k");
        ends(promise, 3, 1, 3);
    }

    private static void gainEnds(int promise) {
        edges.of(promise, "GAIN (0 to 999). OUTSIDE: ... GAIN");
        ends(promise, 4, 0, 999);
    }

    private static void lossEnds(int promise) {
        edges.of(promise, "LOSS (0 to 999). OUTSIDE: ... LOSS");
        ends(promise, 5, 0, 999);
    }

    private static void costEnds(int promise) {
        edges.of(promise, "COST (0 to 99). OUTSIDE: ... COST");
        ends(promise, 6, 0, 99);
    }

    // ---- promise 28

    private static void noughtsAhead() {
        edges.of(28, "(tenths, the first DAY's first); 0s ahead are not told");
        hayIs("9 of 1: DAY 0 is wet", 0, 9, 1, 0, 1, 100, 100, 99);
        hayIs("9 of 2: DAY 0 is dry", 100000, 9, 2, 0, 1, 100, 100, 99);
        hayIs("9 of 2: DAY 1 is wet", 0, 9, 2, 1, 1, 100, 100, 99);
        hayIs("90 of 2: DAY 0 is wet", 1000, 90, 2, 0, 1, 100, 100, 99);
        hayIs("90 of 3: DAY 0 is dry", 100000, 90, 3, 0, 1, 100, 100, 99);
        hayIs("123456789: DAY 0", 900, 123456789, 9, 0, 1, 1, 0, 99);
        hayIs("123456789: DAY 8", 100, 123456789, 9, 8, 1, 1, 0, 99);
        hayIs("23456789 of 9: DAY 0", 1000, 23456789, 9, 0, 1, 1, 0, 99);
    }

    private static void behindTheLastDay() {
        edges.of(28, "(0 to how many DAYS: 0 there)");
        for (int n = 1; n <= 9; n++) {
            hayIs("behind " + n, 0, 0, n, n, 1, 999, 0, 0);
        }
    }

    private static void notLaterThanItEnds() {
        edges.of(28, "one may not cut later than that it ends with the last DAY");
        for (int k = 1; k <= 3; k++) {
            hayIs("it ends with the last, k " + k, 5000, 0, 4, 4 - k, k, 5, 0, 0);
            hayIs("one later, k " + k, 0, 0, 4, 5 - k, k, 5, 0, 0);
        }
    }

    private static void moreDryDaysThanDays() {
        edges.of(28, "it ends with the last DAY: k DAYS of n");
        hayIs("3 of 3", 5000, 0, 3, 0, 3, 5, 0, 0);
        hayIs("3 of 2", 0, 0, 2, 0, 3, 5, 0, 0);
        hayIs("3 of 1", 0, 0, 1, 0, 3, 5, 0, 0);
        hayIs("2 of 2", 5000, 0, 2, 0, 2, 5, 0, 0);
        hayIs("2 of 1", 0, 0, 1, 0, 2, 5, 0, 0);
        hayIs("1 of 1", 5000, 0, 1, 0, 1, 5, 0, 0);
    }

    private static void neverBelowNought() {
        edges.of(28, "or never cut (0, less what was waited)");
        hayIs("always wet", 0, 999999999, 9, 0, 1, 999, 999, 99);
        hayIs("one below as good", 0, 5, 1, 0, 1, 49, 50, 0);
        hayIs("as good", 0, 5, 1, 0, 1, 50, 50, 0);
        hayIs("one better", 500, 5, 1, 0, 1, 51, 50, 0);
    }

    private static void oddsOfDryTogether() {
        edges.of(28, "the odds of dry (thousandths times thousandths by 1000, DAY by DAY)");
        hayIs("k 1", 700, 345, 3, 0, 1, 1, 0, 99);
        hayIs("k 2", 420, 345, 3, 0, 2, 1, 0, 99);
        hayIs("k 3", 210, 345, 3, 0, 3, 1, 0, 99);
        hayIs("k 3, the least above 0", 1, 999, 3, 0, 3, 1, 0, 99);
        hayIs("k 3, the most", 1000, 0, 3, 0, 3, 1, 0, 99);
        hayIs("k 2, from DAY 1", 300, 345, 3, 1, 2, 1, 0, 99);
    }

    private static void lostIfNotDry() {
        edges.of(28, "(GAIN and LOSS) times the odds of dry ... less 1000 times LOSS");
        hayIs("dry", 10000, 0, 1, 0, 1, 10, 999, 0);
        hayIs("700", 4000, 3, 1, 0, 1, 10, 10, 0);
        hayIs("no LOSS", 7000, 3, 1, 0, 1, 10, 0, 0);
        hayIs("no GAIN", 0, 0, 1, 0, 1, 0, 10, 0);
    }

    private static void greatestStakes() {
        edges.of(28, "GAIN (0 to 999), LOSS (0 to 999), COST (0 to 99), the most of each");
        hayIs("dry", 999000, 0, 9, 0, 3, 999, 999, 99);
        hayIs("900", 1998 * 900 - 999000, 1, 1, 0, 1, 999, 999, 99);
        hayIs("six DAYS waited", 999000 - 6 * 99000, 999999000, 9, 0, 3, 999, 999, 99);
        hayIs("eight DAYS waited", 999000 - 8 * 99000, 999999990, 9, 0, 1, 999, 999, 99);
    }

    private static void eachWaitedDayCosts() {
        edges.of(28, "each DAY that one waits costs COST");
        hayIs("none waited", 100000, 990, 3, 2, 1, 100, 100, 10);
        hayIs("one waited", 90000, 990, 3, 1, 1, 100, 100, 10);
        hayIs("two waited", 80000, 990, 3, 0, 1, 100, 100, 10);
        hayIs("without COST", 100000, 990, 3, 0, 1, 100, 100, 0);
        hayIs("it costs what it gains", 0, 990, 3, 0, 1, 100, 100, 50);
        hayIs("it costs more", 0, 990, 3, 0, 1, 100, 100, 51);
        hayIs("one less", 2000, 990, 3, 0, 1, 100, 100, 49);
    }

    private static void waitingForNothing() {
        edges.of(28, "the best of cutting now, waiting, giving up");
        hayIs("waiting is as good as cutting", 80000, 21, 2, 0, 1, 100, 0, 10);
        hayIs("waiting is better by 1000", 81000, 21, 2, 0, 1, 100, 0, 9);
        hayIs("cutting is better by 1000", 80000, 21, 2, 0, 1, 100, 0, 11);
    }

    private static void nineDays() {
        edges.of(28, "from the end back, over 9 DAYS");
        for (int day = 0; day <= 8; day++) {
            hayIs("from DAY " + day, 1000 * (50 - (8 - day)), 555555550, 9, day, 1, 50, 50, 1);
        }
        hayIs("the best of all DAYS", 9000 - 4 * 1000, 999919999, 9, 0, 1, 10, 0, 1);
    }

    // ---- promise 29

    private static void givesUpFirst() {
        edges.of(29, "DOES: 0 gives up ...: the first of these as good");
        doesIs("all three as good", 0, 0, 2, 0, 1, 0, 0, 0);
        doesIs("cutting as good", 0, 5, 1, 0, 1, 50, 50, 1);
        doesIs("waiting as good", 0, 90, 2, 0, 1, 10, 10, 10);
        doesIs("cutting is better", 1, 5, 1, 0, 1, 51, 50, 1);
        doesIs("waiting is better", 2, 90, 2, 0, 1, 11, 10, 10);
        doesIs("both are worse", 0, 99, 2, 0, 1, 10, 10, 10);
    }

    private static void cutsAheadOfWaiting() {
        edges.of(29, "1 cuts, 2 waits: the first of these as good");
        doesIs("as good without COST", 1, 0, 2, 0, 1, 10, 10, 0);
        doesIs("as good by COST", 1, 21, 2, 0, 1, 100, 0, 10);
        doesIs("cutting is better", 1, 21, 2, 0, 1, 100, 0, 11);
    }

    private static void waitsIfBetter() {
        edges.of(29, "2 waits");
        doesIs("by 1000", 2, 21, 2, 0, 1, 100, 0, 9);
        doesIs("it can be cut on the last DAY alone", 2, 900, 3, 0, 2, 10, 10, 0);
        doesIs("two DAYS", 2, 990, 3, 0, 1, 100, 100, 10);
        doesIs("then", 2, 990, 3, 1, 1, 100, 100, 10);
        doesIs("at last", 1, 990, 3, 2, 1, 100, 100, 10);
    }

    private static void doesBehindTheLastDay() {
        edges.of(29, "DOES ... (0 to how many DAYS ...)");
        for (int n = 1; n <= 9; n++) {
            doesIs("behind " + n, 0, 0, n, n, 1, 999, 0, 0);
        }
    }

    private static void doesOnTheLastDayToCut() {
        edges.of(29, "one may not cut later than that it ends with the last DAY");
        for (int k = 1; k <= 3; k++) {
            doesIs("it ends with the last, k " + k, 1, 0, 4, 4 - k, k, 5, 0, 0);
            doesIs("one later, k " + k, 0, 0, 4, 5 - k, k, 5, 0, 0);
        }
        doesIs("k 3 of 2 DAYS", 0, 0, 2, 0, 3, 999, 0, 0);
    }

    // ---- promise 30

    private static FallingGlass wired(String rains, int... told) {
        FallingGlass g = new FallingGlass();
        for (int day = 0; day < rains.length(); day++) {
            g.day(0, 0, 50, 0, 0, rains.charAt(day) - '0');
            g.wire(day, told[day]);
        }
        return g;
    }

    private static void believedTellerEnds() {
        edges.of(30, "UNKNOWN (GONE less 1)");
        FallingGlass g = wired("00", 0, 0);
        g.day(1, 0, 50, 0, 0, 0);
        edges.is("YESTERDAY", g.believed(0, 1, 1), 2);
        edges.is("JOINED", g.believed(8, 1, 1), 2);
        for (int teller : new int[] {-1, 9, LEAST, MOST}) {
            edges.is("believed(" + teller + ", 1, 1)", g.believed(teller, 1, 1), GONE - 1);
        }
    }

    private static void believedGainEnds() {
        edges.of(30, "OUTSIDE: 0 to 999 each (GONE less ... 2): GAIN");
        FallingGlass g = wired("0", 0);
        edges.is("0", g.believed(7, 0, 1), 0);
        edges.is("999", g.believed(7, 999, 1), 999);
        for (int gain : new int[] {-1, 1000, LEAST, MOST}) {
            edges.is("believed(7, " + gain + ", 1)", g.believed(7, gain, 1), GONE - 2);
        }
    }

    private static void believedLossEnds() {
        edges.of(30, "OUTSIDE: 0 to 999 each (GONE less ... 2): LOSS");
        FallingGlass g = wired("1", 0);
        edges.is("0", g.believed(7, 1, 0), 0);
        edges.is("999", g.believed(7, 1, 999), -999);
        for (int loss : new int[] {-1, 1000, LEAST, MOST}) {
            edges.is("believed(7, 1, " + loss + ")", g.believed(7, 1, loss), GONE - 2);
        }
    }

    private static void believedFirstRefusal() {
        edges.of(30, "the first of these that fits: UNKNOWN ahead of OUTSIDE");
        FallingGlass g = wired("1", 0);
        edges.is("GAIN too", g.believed(9, 1000, 0), GONE - 1);
        edges.is("LOSS too", g.believed(-1, 0, -1), GONE - 1);
    }

    private static void moreThanLoss() {
        edges.of(30, "if GAIN times (1000 less these) is more than LOSS times these");
        edges.is("499 by 1 and 1", wired("0", 499).believed(7, 1, 1), 1);
        edges.is("500 by 1 and 1: as much", wired("0", 500).believed(7, 1, 1), 0);
        edges.is("501 by 1 and 1", wired("0", 501).believed(7, 1, 1), 0);
        edges.is("499 by 501 and 503: 251001 and 250997", wired("0", 499).believed(7, 501, 503), 501);
        edges.is("500 by 501 and 500", wired("0", 500).believed(7, 501, 500), 501);
        edges.is("200 by 1 and 4: as much", wired("1", 200).believed(7, 1, 4), 0);
        edges.is("199 by 1 and 4", wired("1", 199).believed(7, 1, 4), -4);
    }

    private static void sureOdds() {
        edges.of(30, "(1000 less these), of odds 0 and 1000");
        edges.is("0", wired("0", 0).believed(7, 1, 999), 1);
        edges.is("1000", wired("0", 1000).believed(7, 999, 1), 0);
        edges.is("1000 without LOSS: 0 is not more than 0", wired("0", 1000).believed(7, 999, 0), 0);
        edges.is("999 without LOSS", wired("0", 999).believed(7, 999, 0), 999);
    }

    private static void noStakes() {
        edges.of(30, "GAIN and LOSS 0");
        edges.is("no GAIN", wired("1", 0).believed(7, 0, 999), 0);
        edges.is("neither", wired("1", 0).believed(7, 0, 0), 0);
        edges.is("no LOSS, wet", wired("1", 0).believed(7, 999, 0), 0);
    }

    private static void nothingSaid() {
        edges.of(30, "on each DAY of which it says odds");
        edges.is("no DAYS", new FallingGlass().believed(7, 999, 0), 0);
        edges.is("nothing told", wired("00", -1, -1).believed(7, 999, 0), 0);
        edges.is("told of one", wired("000", -1, 0, -1).believed(7, 999, 0), 999);
        edges.is("YESTERDAY of three", wired("000", -1, -1, -1).believed(0, 1, 0), 2);
    }

    private static void gainIfDryLossIfWet() {
        edges.of(30, "GAIN more, if it is dry, LOSS less, if it rains: all together");
        edges.is("dry, dry, wet", wired("001", 0, 0, 0).believed(7, 10, 3), 17);
        edges.is("below 0", wired("011", 0, 0, 0).believed(7, 10, 30), -50);
        edges.is("the wet one is not washed on", wired("01", 100, 600).believed(7, 10, 10), 10);
    }

    private static void believedOfSixtyDays() {
        edges.of(30, "of DAYS 0 to 59, at the ends");
        FallingGlass dry = new FallingGlass();
        FallingGlass wet = new FallingGlass();
        for (int i = 0; i < 60; i++) {
            dry.day(0, 0, 50, 0, 0, 0);
            wet.day(0, 0, 50, 0, 0, 1);
        }
        Due.saying(dry, 0, "*:0");
        Due.saying(wet, 0, "*:0");
        edges.is("all dry", dry.believed(2, 999, 999), 59940);
        edges.is("all wet", wet.believed(2, 999, 999), -59940);
    }
}
