/** Promises 16 to 23, sentence by sentence: where scores, bests, lots and words begin and end. */
public final class ScoreEdgesTest {
    private static final int LEAST = Integer.MIN_VALUE;
    private static final int MOST = Integer.MAX_VALUE;
    private static final long LOST = FallingGlass.LOST;
    private static final Edges EDGES = new Edges("ScoreEdgesTest");

    public static void main(String[] args) {
        scoreTellerEnds();
        scorePartEnds();
        scoreNeverSays();
        scoreFirstRefusal();
        scoreOfSpokenDays();
        scoreNought();
        scoreGreatest();
        scoreLowestTerms();
        scoreOfSixtyDays();

        meansTellerEnds();
        meansNumbersEnd();
        meansRisingOrAlike();
        meansWhatEnds();
        meansFirstRefusal();
        meansBothEndsCounted();
        meansOfNothingSaid();
        meansWithRain();
        meansOfSixtyDays();

        BestEdges.all(EDGES);

        triedEnds();
        triedFirstRefusal();
        triedFromFiveHundred();
        triedSpokenOf();
        triedNothing();
        triedSixtyDays();

        lotEnds();
        lotFirstRefusal();
        lotOrMore();
        lotAtTheEnds();
        lotOfSpokenDays();
        lotLowestTerms();
        lotGreatest();

        changedEnds();
        changedFromYearOn();
        changedAllOrNone();
        changedOrMore();
        changedGreatest();
        changedEmpty();

        engravedEnds();
        engravedLeast();
        engravedAtTheEnds();
        engravedEmpty();
        engravedSixtyDays();

        rightEnds();
        rainBelowForty();
        fairFromSixty();
        nothingBetween();
        rightWithoutPress();
        rightMeansWhatCame();
        rightOfExtremes();
        rightOfSixtyDays();
        EDGES.end(16, 23);
    }

    private static void rains(FallingGlass g, int year, String rains) {
        for (int i = 0; i < rains.length(); i++) {
            g.day(year, 0, 50, 0, 0, rains.charAt(i) - '0');
        }
    }

    /** Days of one year, of so much rain each, of which THE WIRE told so much. */
    private static FallingGlass wired(String rains, int... told) {
        FallingGlass g = new FallingGlass();
        rains(g, 0, rains);
        for (int day = 0; day < told.length; day++) {
            g.wire(day, told[day]);
        }
        return g;
    }

    // ---- promise 16

    private static void scoreIs(String call, FallingGlass g, int teller, long upper, long lower) {
        EDGES.fraction(call, g.score(teller, 0), g.score(teller, 1), upper, lower);
    }

    private static void scoreTellerEnds() {
        EDGES.of(16, "UNKNOWN (there is no such ... TELLER) (LOST less 1)");
        FallingGlass g = new FallingGlass();
        rains(g, 0, "10");
        rains(g, 1, "1");
        g.wire(0, 500);
        scoreIs("YESTERDAY", g, 0, 1000000, 1);
        scoreIs("JOINED: 500 and 1000", g, 8, 62500, 1);
        for (int teller : new int[] {-1, 9, LEAST, MOST}) {
            EDGES.is("score(" + teller + ", 0)", g.score(teller, 0), LOST - 1);
        }
    }

    private static void scorePartEnds() {
        EDGES.of(16, "Fractions are told by part: 0 the upper, 1 the lower number; OUTSIDE (LOST less 2)");
        FallingGlass g = wired("10", 900, -1);
        EDGES.is("score(7, 0)", g.score(7, 0), 10000);
        EDGES.is("score(7, 1)", g.score(7, 1), 1);
        for (int part : new int[] {-1, 2, LEAST, MOST}) {
            EDGES.is("score(7, " + part + ")", g.score(7, part), LOST - 2);
        }
    }

    private static void scoreNeverSays() {
        EDGES.of(16, "NO: it never says odds (LOST less 5)");
        FallingGlass one = new FallingGlass();
        rains(one, 0, "1");
        for (int teller = 0; teller <= 8; teller++) {
            for (int part = 0; part <= 1; part++) {
                EDGES.is("no DAYS, score(" + teller + ")", new FallingGlass().score(teller, part), LOST - 5);
                EDGES.is("one DAY, score(" + teller + ")", one.score(teller, part), LOST - 5);
            }
        }
    }

    private static void scoreFirstRefusal() {
        EDGES.of(16, "the first of these that fits: UNKNOWN, OUTSIDE, NO");
        FallingGlass g = new FallingGlass();
        EDGES.is("all three", g.score(9, 2), LOST - 1);
        EDGES.is("UNKNOWN and OUTSIDE", wired("1", 0).score(-1, -1), LOST - 1);
        EDGES.is("OUTSIDE and NO", g.score(0, 2), LOST - 2);
        EDGES.is("NO", g.score(0, 1), LOST - 5);
    }

    private static void scoreOfSpokenDays() {
        EDGES.of(16, "of all DAYS of which it says odds ... by how many DAYS");
        scoreIs("the first alone", wired("111", 900, -1, -1), 7, 10000, 1);
        scoreIs("the last alone", wired("111", -1, -1, 900), 7, 10000, 1);
        scoreIs("two of three", wired("111", 999, -1, 1000), 7, 1, 2);
        scoreIs("0 is said", wired("000", 1, 0, -1), 7, 1, 2);
    }

    private static void scoreNought() {
        EDGES.of(16, "the square of (these less 1000 times RAIN): 0");
        scoreIs("always right", wired("101", 1000, 0, 1000), 7, 0, 1);
    }

    private static void scoreGreatest() {
        EDGES.of(16, "the square of (these less 1000 times RAIN): the most");
        scoreIs("always wrong", wired("010", 1000, 0, 1000), 7, 1000000, 1);
        scoreIs("one above", wired("0", 1), 7, 1, 1);
        scoreIs("one below", wired("1", 999), 7, 1, 1);
    }

    private static void scoreLowestTerms() {
        EDGES.of(16, "in lowest terms");
        scoreIs("4 by 6", wired("000000", 2, 0, 0, 0, 0, 0), 7, 2, 3);
        scoreIs("4 by 4", wired("0000", 2, 0, 0, 0), 7, 1, 1);
        scoreIs("9 by 6", wired("000000", 3, 0, 0, 0, 0, 0), 7, 3, 2);
        scoreIs("1 by 2", wired("00", 1, 0), 7, 1, 2);
        scoreIs("25 by 5", wired("11111", 995, 1000, 1000, 1000, 1000), 7, 5, 1);
    }

    private static void scoreOfSixtyDays() {
        EDGES.of(16, "of all DAYS: DAYS 0 to 59");
        FallingGlass g = new FallingGlass();
        for (int i = 0; i < 60; i++) {
            rains(g, 0, "1");
            g.wire(i, i == 0 || i == 59 ? 999 : 1000);
        }
        scoreIs("both ends are one off", g, 7, 1, 30);
        Due.saying(g, 0, "*:0");
        scoreIs("all wrong", g, 2, 1000000, 1);
        scoreIs("YESTERDAY, of all but the first", g, 0, 0, 1);
        for (int i = 0; i < 60; i++) {
            g.wire(i, i == 0 ? 999 : 1000);
        }
        scoreIs("one off", g, 7, 1, 60);
    }

    // ---- promise 17

    private static void meansTellerEnds() {
        EDGES.of(17, "UNKNOWN (there is no such ... TELLER)");
        FallingGlass g = new FallingGlass();
        rains(g, 0, "10");
        rains(g, 1, "1");
        g.wire(0, 500);
        EDGES.is("YESTERDAY", g.means(0, 0, 1000, 0), 2);
        EDGES.is("JOINED", g.means(8, 0, 1000, 0), 1);
        for (int teller : new int[] {-1, 9, LEAST, MOST}) {
            EDGES.is("means of " + teller, g.means(teller, 0, 1000, 0), -1);
        }
    }

    private static void meansNumbersEnd() {
        EDGES.of(17, "OUTSIDE: 0 to 1000");
        FallingGlass g = wired("11", 0, 1000);
        EDGES.is("0 to 1000", g.means(7, 0, 1000, 0), 2);
        for (int from : new int[] {-1, LEAST}) {
            EDGES.is("from " + from, g.means(7, from, 1000, 0), -2);
        }
        for (int to : new int[] {1001, MOST}) {
            EDGES.is("to " + to, g.means(7, 0, to, 0), -2);
        }
        EDGES.is("both below", g.means(7, -2, -1, 0), -2);
        EDGES.is("both above", g.means(7, 1001, 1002, 0), -2);
    }

    private static void meansRisingOrAlike() {
        EDGES.of(17, "rising or alike");
        FallingGlass g = wired("11", 300, 301);
        EDGES.is("alike", g.means(7, 300, 300, 0), 1);
        EDGES.is("rising", g.means(7, 300, 301, 0), 2);
        EDGES.is("falling", g.means(7, 301, 300, 0), -2);
        EDGES.is("alike at the least", g.means(7, 0, 0, 0), 0);
        EDGES.is("alike at the most", g.means(7, 1000, 1000, 0), 0);
        EDGES.is("falling from the most", g.means(7, 1000, 0, 0), -2);
    }

    private static void meansWhatEnds() {
        EDGES.of(17, "how many (what = 0), with RAIN (1)");
        FallingGlass g = wired("110", 300, 300, 300);
        EDGES.is("how many", g.means(7, 0, 1000, 0), 3);
        EDGES.is("with RAIN", g.means(7, 0, 1000, 1), 2);
        for (int what : new int[] {-1, 2, LEAST, MOST}) {
            EDGES.is("what " + what, g.means(7, 0, 1000, what), -2);
        }
    }

    private static void meansFirstRefusal() {
        EDGES.of(17, "the first of these that fits: UNKNOWN ahead of OUTSIDE");
        FallingGlass g = wired("1", 300);
        EDGES.is("from -1", g.means(9, -1, 1000, 0), -1);
        EDGES.is("to 1001", g.means(-1, 0, 1001, 0), -1);
        EDGES.is("falling", g.means(9, 1, 0, 0), -1);
        EDGES.is("what 2", g.means(9, 0, 0, 2), -1);
    }

    private static void meansBothEndsCounted() {
        EDGES.of(17, "(both ends counted)");
        FallingGlass g = wired("11111", 299, 300, 500, 700, 701);
        EDGES.is("300 to 700", g.means(7, 300, 700, 0), 3);
        EDGES.is("301 to 700", g.means(7, 301, 700, 0), 2);
        EDGES.is("300 to 699", g.means(7, 300, 699, 0), 2);
        EDGES.is("301 to 699", g.means(7, 301, 699, 0), 1);
        FallingGlass ends = wired("11", 0, 1000);
        EDGES.is("0 to 999", ends.means(7, 0, 999, 0), 1);
        EDGES.is("1 to 1000", ends.means(7, 1, 1000, 0), 1);
        EDGES.is("1 to 999", ends.means(7, 1, 999, 0), 0);
    }

    private static void meansOfNothingSaid() {
        EDGES.of(17, "of DAYS with such odds [not of those without odds]");
        EDGES.is("no DAYS", new FallingGlass().means(7, 0, 1000, 0), 0);
        EDGES.is("nothing told", wired("11").means(7, 0, 1000, 0), 0);
        EDGES.is("told of one", wired("111", -1, 0, -1).means(7, 0, 1000, 0), 1);
        EDGES.is("YESTERDAY of three", wired("111").means(0, 0, 1000, 0), 2);
    }

    private static void meansWithRain() {
        EDGES.of(17, "how many with RAIN, of these alone");
        FallingGlass g = wired("1011", 299, 300, 300, 301);
        EDGES.is("with RAIN", g.means(7, 300, 300, 1), 1);
        EDGES.is("none with RAIN", wired("00", 5, 5).means(7, 5, 5, 1), 0);
        EDGES.is("no DAYS", new FallingGlass().means(7, 0, 1000, 1), 0);
    }

    private static void meansOfSixtyDays() {
        EDGES.of(17, "of all DAYS: DAYS 0 to 59");
        FallingGlass g = new FallingGlass();
        for (int i = 0; i < 60; i++) {
            rains(g, 0, i == 0 || i == 59 ? "1" : "0");
        }
        Due.saying(g, 3, "*:4");
        EDGES.is("all", g.means(5, 400, 400, 0), 60);
        EDGES.is("both ends", g.means(5, 400, 400, 1), 2);
    }

    // ---- promise 19

    /** Days of press 0, 1, 2 ..., of so much rain each. */
    private static FallingGlass numbered(String rains, String saying) {
        FallingGlass g = new FallingGlass();
        for (int i = 0; i < rains.length(); i++) {
            g.day(0, 0, i, 0, 0, rains.charAt(i) - '0');
        }
        Due.saying(g, 0, saying);
        return g;
    }

    private static void triedIs(String call, FallingGlass g, int all, int taken, int marked) {
        EDGES.is(call + ", spoken of", g.tried(0, 0), all);
        EDGES.is(call + ", taken", g.tried(0, 1), taken);
        EDGES.is(call + ", marked", g.tried(0, 2), marked);
    }

    private static void triedEnds() {
        EDGES.of(19, "SAYINGS 0 to 3: UNKNOWN; (what = 0), (1), (2): OUTSIDE");
        FallingGlass g = numbered("1", "*:1");
        Due.saying(g, 3, "*:5");
        EDGES.is("tried(0, 1)", g.tried(0, 1), 0);
        EDGES.is("tried(3, 1)", g.tried(3, 1), 1);
        EDGES.is("tried(3, 2)", g.tried(3, 2), 1);
        for (int v : new int[] {-1, 4, LEAST, MOST}) {
            EDGES.is("tried(" + v + ", 0)", g.tried(v, 0), -1);
        }
        for (int v : new int[] {-1, 3, LEAST, MOST}) {
            EDGES.is("tried(0, " + v + ")", g.tried(0, v), -2);
        }
    }

    private static void triedFirstRefusal() {
        EDGES.of(19, "the first of these that fits: UNKNOWN ahead of OUTSIDE");
        EDGES.is("tried(4, 3)", new FallingGlass().tried(4, 3), -1);
        EDGES.is("tried(-1, -1)", new FallingGlass().tried(-1, -1), -1);
    }

    private static void triedFromFiveHundred() {
        EDGES.of(19, "DAYS of which it says 500 or more are taken");
        triedIs("400", numbered("1", "*:4"), 1, 0, 0);
        triedIs("500", numbered("1", "*:5"), 1, 1, 1);
        triedIs("1000", numbered("1", "*:x"), 1, 1, 1);
        triedIs("0", numbered("1", "*:0"), 1, 0, 0);
        triedIs("500 of a dry one", numbered("0", "*:5"), 1, 1, 0);
    }

    private static void triedSpokenOf() {
        EDGES.of(19, "how many it speaks of at all, how many are taken, how many of these are marked");
        triedIs("five of seven", numbered("1101110", "p<3:6;p>4:2"), 5, 3, 2);
        triedIs("0 is spoken", numbered("111", "p<2:0"), 2, 0, 0);
    }

    private static void triedNothing() {
        EDGES.of(19, "none: no DAYS, no SAYING, no CASE that fits");
        triedIs("no DAYS", numbered("", "*:9"), 0, 0, 0);
        triedIs("no SAYING", numbered("11", ""), 0, 0, 0);
        triedIs("no CASE", numbered("11", "p>5:9"), 0, 0, 0);
    }

    private static void triedSixtyDays() {
        EDGES.of(19, "of all DAYS: DAYS 0 to 59");
        String sixty = "1" + "0".repeat(58) + "1";
        triedIs("all taken", numbered(sixty, "*:5"), 60, 60, 2);
        triedIs("the last taken", numbered(sixty, "p=59:5;*:4"), 60, 1, 1);
        triedIs("the first taken", numbered(sixty, "p=0:5;*:4"), 60, 1, 1);
    }

    // ---- promise 20

    private static void lotIs(String call, FallingGlass g, long upper, long lower) {
        EDGES.fraction(call, g.lot(0, 0), g.lot(0, 1), upper, lower);
    }

    private static void lotEnds() {
        EDGES.of(20, "UNKNOWN, OUTSIDE (LOST and the refusal): SAYINGS 0 to 3, part 0 and 1");
        FallingGlass g = numbered("1000", "p=0:9;*:1");
        Due.saying(g, 3, "p<2:9;*:1");
        EDGES.is("lot(0, 1)", g.lot(0, 1), 4);
        EDGES.is("lot(3, 1)", g.lot(3, 1), 2);
        for (int v : new int[] {-1, 4, LEAST, MOST}) {
            EDGES.is("lot(" + v + ", 0)", g.lot(v, 0), LOST - 1);
        }
        for (int v : new int[] {-1, 2, LEAST, MOST}) {
            EDGES.is("lot(0, " + v + ")", g.lot(0, v), LOST - 2);
        }
    }

    private static void lotFirstRefusal() {
        EDGES.of(20, "the first of these that fits: UNKNOWN ahead of OUTSIDE");
        EDGES.is("lot(4, 2)", new FallingGlass().lot(4, 2), LOST - 1);
        EDGES.is("lot(-1, -1)", new FallingGlass().lot(-1, -1), LOST - 1);
    }

    private static void lotOrMore() {
        EDGES.of(20, "the odds that r or more of these are marked");
        // Of 6, 3 marked, 3 taken: 1, 9, 9, 1 of 20 ways have 0, 1, 2, 3.
        lotIs("r 3", numbered("111000", "p<3:9;*:1"), 1, 20);
        lotIs("r 2", numbered("110100", "p<3:9;*:1"), 1, 2);
        lotIs("r 1", numbered("100110", "p<3:9;*:1"), 19, 20);
        lotIs("r 0", numbered("000111", "p<3:9;*:1"), 1, 1);
    }

    private static void lotAtTheEnds() {
        EDGES.of(20, "of N things R are marked, k are taken: none or all of these");
        lotIs("N 0", numbered("", "*:9"), 1, 1);
        lotIs("k 0", numbered("1100", "*:1"), 1, 1);
        lotIs("k N", numbered("1100", "*:9"), 1, 1);
        lotIs("R 0", numbered("0000", "p<2:9;*:1"), 1, 1);
        lotIs("R N", numbered("1111", "p<2:9;*:1"), 1, 1);
        lotIs("k 1, r 1", numbered("1000", "p=0:9;*:1"), 1, 4);
        lotIs("k N less 1, the marked one taken", numbered("1000", "p<3:9;*:1"), 3, 4);
        lotIs("k N less 1, of two marked ones one taken", numbered("1001", "p<3:9;*:1"), 1, 1);
    }

    private static void lotOfSpokenDays() {
        EDGES.of(20, "LOT (of the DAYS that it speaks of)");
        lotIs("of four", numbered("100011", "p=0:9;p<4:1"), 1, 4);
        lotIs("of none", numbered("1000", ""), 1, 1);
        lotIs("of one", numbered("1000", "p=0:9"), 1, 1);
    }

    private static void lotLowestTerms() {
        EDGES.of(20, "in lowest terms");
        lotIs("2 by 4", numbered("1100", "p=0:9;*:1"), 1, 2);
        lotIs("5 by 6", numbered("1100", "p=0:9;p=2:9;*:1"), 5, 6);
        // Of 6, 2 marked, 2 taken, one marked or both: 8 and 1 of 15 ways.
        lotIs("9 by 15", numbered("110000", "p=0:9;p=5:9;*:1"), 3, 5);
    }

    private static void lotGreatest() {
        EDGES.of(20, "of N things (60, the most) k are taken");
        FallingGlass g = numbered("1".repeat(30) + "0".repeat(30), "p<30:9;*:1");
        lotIs("30 of 30", g, 1, 118264581564861424L);
        Due.saying(g, 0, "p<29:9;p=59:9;*:1");
        lotIs("29 or 30 of 30: 901 ways", g, 1, 118264581564861424L / 901);
    }

    // ---- promise 21

    private static void changedIs(String call, FallingGlass g, int year, long upper, long lower) {
        EDGES.fraction(call, g.changed(year, 0), g.changed(year, 1), upper, lower);
    }

    /** One day of each year, that of one year wet. */
    private static FallingGlass tenYears(int wet) {
        FallingGlass g = new FallingGlass();
        for (int year = 0; year < 10; year++) {
            rains(g, year, year == wet ? "1" : "0");
        }
        return g;
    }

    private static void changedEnds() {
        EDGES.of(21, "OUTSIDE: YEARS 0 to 10 (LOST and the refusal), part 0 and 1");
        FallingGlass g = tenYears(9);
        EDGES.is("changed(0, 1)", g.changed(0, 1), 1);
        EDGES.is("changed(10, 1)", g.changed(10, 1), 1);
        for (int v : new int[] {-1, 11, LEAST, MOST}) {
            EDGES.is("changed(" + v + ", 0)", g.changed(v, 0), LOST - 2);
        }
        for (int v : new int[] {-1, 2, LEAST, MOST}) {
            EDGES.is("changed(0, " + v + ")", g.changed(0, v), LOST - 2);
        }
    }

    private static void changedFromYearOn() {
        EDGES.of(21, "DAYS of YEARS from it on are taken");
        changedIs("the YEAR itself", tenYears(5), 5, 1, 2);
        changedIs("the one behind", tenYears(5), 6, 1, 1);
        changedIs("the one ahead", tenYears(5), 4, 3, 5);
        changedIs("the last", tenYears(9), 9, 1, 10);
        changedIs("all but the first", tenYears(9), 1, 9, 10);
    }

    private static void changedAllOrNone() {
        EDGES.of(21, "YEARS 0 to 10: all are taken at 0, none at 10");
        changedIs("at 0", tenYears(0), 0, 1, 1);
        changedIs("at 10", tenYears(9), 10, 1, 1);
    }

    private static void changedOrMore() {
        EDGES.of(21, "those with RAIN marked (of all DAYS): LOT [r or more]");
        FallingGlass g = new FallingGlass();
        rains(g, 3, "110");
        rains(g, 2, "100");
        changedIs("2 or more", g, 3, 1, 2);
        rains(g, 1, "1");
        // Of 7, 4 marked, 3 taken: 18 and 4 of 35 ways.
        changedIs("2 or more of 7", g, 3, 22, 35);
    }

    private static void changedGreatest() {
        EDGES.of(21, "of all DAYS: DAYS 0 to 59");
        FallingGlass g = new FallingGlass();
        for (int i = 0; i < 60; i++) {
            rains(g, i < 30 ? 9 : 0, i < 30 ? "1" : "0");
        }
        changedIs("30 of 30", g, 9, 1, 118264581564861424L);
        changedIs("30 of 30", g, 1, 1, 118264581564861424L);
        changedIs("all", g, 0, 1, 1);
    }

    private static void changedEmpty() {
        EDGES.of(21, "no DAYS");
        for (int year = 0; year <= 10; year++) {
            changedIs("at " + year, new FallingGlass(), year, 1, 1);
        }
    }

    // ---- promises 22 and 23

    private static FallingGlass word(int press, int rain) {
        FallingGlass g = new FallingGlass();
        g.day(0, 0, press, 0, 0, rain);
        return g;
    }

    private static void engravedIs(String call, FallingGlass g, int height, int right) {
        EDGES.is(call + ", height", g.engraved(0), height);
        EDGES.is(call + ", right", g.engraved(1), right);
    }

    private static void engravedEnds() {
        EDGES.of(22, "h (what = 0), RIGHT by it (1). OUTSIDE");
        FallingGlass g = word(50, 0);
        EDGES.is("engraved(0)", g.engraved(0), 10);
        EDGES.is("engraved(1)", g.engraved(1), 1);
        for (int what : new int[] {-1, 2, LEAST, MOST}) {
            EDGES.is("engraved(" + what + ")", g.engraved(what), -2);
        }
    }

    private static void engravedLeast() {
        EDGES.of(22, "the h for which most are RIGHT, the least such");
        engravedIs("fair from 20 on", word(40, 0), 20, 1);
        FallingGlass g = word(39, 1);
        g.day(0, 0, 50, 0, 0, 0);
        engravedIs("one by 0, one by 10 to 40", g, 0, 1);
        g.day(0, 0, 49, 0, 0, 0);
        engravedIs("one by 0, two by 11 to 40", g, 11, 2);
        g.day(0, 0, 48, 0, 0, 1);
        engravedIs("as before", g, 11, 2);
    }

    private static void engravedAtTheEnds() {
        EDGES.of(22, "by a height h (0 to 40): the best at the ends");
        engravedIs("0 alone", word(39, 1), 0, 1);
        engravedIs("40 alone", word(20, 0), 40, 1);
        engravedIs("41 would be", word(19, 0), 0, 0);
        engravedIs("-1 would be", word(40, 1), 0, 0);
        engravedIs("all of them", word(60, 0), 0, 1);
        FallingGlass one = word(59, 0);
        one.day(0, 0, 38, 0, 0, 1);
        engravedIs("1 alone", one, 1, 2);
        FallingGlass last = word(21, 0);
        last.day(0, 0, 0, 0, 0, 1);
        engravedIs("39 alone", last, 39, 2);
    }

    private static void engravedEmpty() {
        EDGES.of(22, "no DAYS, and none with a PRESS");
        engravedIs("no DAYS", new FallingGlass(), 0, 0);
        engravedIs("no PRESS", word(-1, 1), 0, 0);
    }

    private static void engravedSixtyDays() {
        EDGES.of(22, "most are RIGHT: of DAYS 0 to 59");
        FallingGlass g = new FallingGlass();
        for (int i = 0; i < 60; i++) {
            g.day(0, 0, i < 30 ? 32 : 53, 0, 0, i < 30 ? 1 : 0);
        }
        engravedIs("all of them", g, 7, 60);
    }

    private static void rightEnds() {
        EDGES.of(23, "by a height h (0 to 40). OUTSIDE");
        EDGES.is("right(0)", word(39, 1).right(0), 1);
        EDGES.is("right(40)", word(20, 0).right(40), 1);
        for (int h : new int[] {-1, 41, LEAST, MOST}) {
            EDGES.is("right(" + h + ")", word(39, 1).right(h), -2);
        }
        EDGES.is("no DAYS", new FallingGlass().right(0), 0);
    }

    private static void rainBelowForty() {
        EDGES.of(23, "below 40 it means rain");
        EDGES.is("39", word(39, 1).right(0), 1);
        EDGES.is("40", word(40, 1).right(0), 0);
        EDGES.is("29 and 10", word(29, 1).right(10), 1);
        EDGES.is("30 and 10", word(30, 1).right(10), 0);
    }

    private static void fairFromSixty() {
        EDGES.of(23, "from 60 on fair");
        EDGES.is("59", word(59, 0).right(0), 0);
        EDGES.is("60", word(60, 0).right(0), 1);
        EDGES.is("49 and 10", word(49, 0).right(10), 0);
        EDGES.is("50 and 10", word(50, 0).right(10), 1);
    }

    private static void nothingBetween() {
        EDGES.of(23, "else nothing");
        for (int press = 40; press < 60; press++) {
            EDGES.is(press + " wet", word(press, 1).right(0), 0);
            EDGES.is(press + " dry", word(press, 0).right(0), 0);
        }
    }

    private static void rightWithoutPress() {
        EDGES.of(23, "PRESS and h [a DAY without PRESS has no words]");
        for (int h : new int[] {0, 1, 40}) {
            EDGES.is("wet by " + h, word(-1, 1).right(h), 0);
            EDGES.is("dry by " + h, word(-1, 0).right(h), 0);
        }
    }

    private static void rightMeansWhatCame() {
        EDGES.of(23, "RIGHT: DAYS where it means what came");
        EDGES.is("rain meant, dry", word(39, 0).right(0), 0);
        EDGES.is("fair meant, wet", word(60, 1).right(0), 0);
        FallingGlass g = word(39, 1);
        g.day(0, 0, 60, 0, 0, 0);
        g.day(0, 0, 39, 0, 0, 0);
        g.day(0, 0, 0, 0, 0, 1);
        EDGES.is("three of four", g.right(0), 3);
    }

    private static void rightOfExtremes() {
        EDGES.of(23, "PRESS (0 to 99) and h (0 to 40), at the ends");
        EDGES.is("0 and 0", word(0, 1).right(0), 1);
        EDGES.is("0 and 39", word(0, 1).right(39), 1);
        EDGES.is("0 and 40", word(0, 1).right(40), 0);
        EDGES.is("0 and 40, dry", word(0, 0).right(40), 0);
        EDGES.is("99 and 0", word(99, 0).right(0), 1);
        EDGES.is("99 and 40", word(99, 0).right(40), 1);
    }

    private static void rightOfSixtyDays() {
        EDGES.of(23, "RIGHT: DAYS 0 to 59");
        FallingGlass g = new FallingGlass();
        for (int i = 0; i < 60; i++) {
            g.day(0, 0, i == 0 || i == 59 ? 30 : 39, 0, 0, 1);
        }
        EDGES.is("all", g.right(0), 60);
        EDGES.is("both ends", g.right(9), 2);
        EDGES.is("none", g.right(10), 0);
    }
}
