/** Promise 12, sentence by sentence: where what tellers say begins and ends. */
final class TellerEdges {
    private static final int LEAST = Integer.MIN_VALUE;
    private static final int MOST = Integer.MAX_VALUE;
    private static Edges edges;

    private TellerEdges() {
    }

    static void all(Edges its) {
        edges = its;
        tellerEnds();
        oddsOfUnknownDays();
        firstCaseThatFits();
        allTestsOfACase();
        nothingIfNoneFits();
        testsOfWhatDayHasNot();
        relationsAtTheNumber();
        numbersOfOneOrTwoDigits();
        tenthsTold();
        yesterday();
        yesterdayOfFirstDay();
        monthInOtherYears();
        monthAtTheEnds();
        monthWithoutAny();
        monthCut();
        sayingsAreTellers();
        bookInOtherYears();
        bookCut();
        bookWithoutAny();
        wireAtFirst();
        wireEnds();
        weightEnds();
        joinedCut();
        joinedWithoutBook();
        joinedWithoutWire();
        tellersOfSixtyDays();
    }

    /** Days of one year and month, of so much rain each. */
    private static void rains(FallingGlass g, int year, int month, String rains) {
        for (int i = 0; i < rains.length(); i++) {
            g.day(year, month, 50, 0, 0, rains.charAt(i) - '0');
        }
    }

    private static void tellerEnds() {
        edges.of(12, "UNKNOWN (there is no such ... TELLER): 0 YESTERDAY to 8 JOINED");
        FallingGlass g = new FallingGlass();
        rains(g, 0, 0, "11");
        rains(g, 1, 0, "00");
        g.wire(1, 400);
        edges.is("odds(0, 1)", g.odds(0, 1), 1000);
        edges.is("odds(8, 1)", g.odds(8, 1), 200);
        for (int teller : new int[] {-1, 9, LEAST, MOST}) {
            edges.is("odds(" + teller + ", 1)", g.odds(teller, 1), -1);
        }
    }

    private static void oddsOfUnknownDays() {
        edges.of(12, "UNKNOWN (there is no such DAY ...)");
        FallingGlass g = new FallingGlass();
        for (int teller = 0; teller <= 8; teller++) {
            edges.is("no DAYS, odds(" + teller + ", 0)", g.odds(teller, 0), -1);
        }
        rains(g, 0, 0, "11");
        g.wire(0, 300);
        g.wire(1, 400);
        edges.is("DAY 0", g.odds(7, 0), 300);
        edges.is("the last DAY", g.odds(7, 1), 400);
        for (int teller = 0; teller <= 8; teller++) {
            for (int day : new int[] {-1, 2, LEAST, MOST}) {
                edges.is("odds(" + teller + ", " + day + ")", g.odds(teller, day), -1);
            }
        }
    }

    private static FallingGlass saying(String signs) {
        FallingGlass g = new FallingGlass();
        g.day(0, 5, 50, 7, 3, 0);
        g.day(0, 6, 47, 0, 0, 1);
        g.day(0, 7, -1, 1, 1, 0);
        Due.saying(g, 0, signs);
        return g;
    }

    private static void says(String signs, int first, int second, int third) {
        FallingGlass g = saying(signs);
        edges.is(signs + " of DAY 0", g.odds(2, 0), first);
        edges.is(signs + " of DAY 1", g.odds(2, 1), second);
        edges.is(signs + " of DAY 2", g.odds(2, 2), third);
    }

    private static void firstCaseThatFits() {
        edges.of(12, "a SAYING says what its first CASE that fits tells");
        says("*:1;*:2", 100, 100, 100);
        says("w<1:1;w<2:2;*:3", 300, 100, 200);
        says("w=9:4;w=7:5;w=7:6", 500, -6, -6);
    }

    private static void allTestsOfACase() {
        edges.of(12, "TESTS with a & between two [fit, if each does]");
        says("m=5&w=7:1", 100, -6, -6);
        says("m=5&w=6:1", -6, -6, -6);
        says("m=4&w=7:1", -6, -6, -6);
        says("m<7&s<4&w=0:1;m>6:2", -6, 100, 200);
    }

    private static void nothingIfNoneFits() {
        edges.of(12, "nothing, if none does");
        says("m>7:1;m<5:2", -6, -6, -6);
        edges.is("no SAYING", saying("*:1").odds(3, 0), -6);
    }

    private static void testsOfWhatDayHasNot() {
        edges.of(12, "a TEST of what the DAY has not does not fit");
        says("y<99:1", -6, 100, 100);
        says("y=0:1;y>0:2", -6, 100, 200);
        says("d<99:1", -6, 100, -6);
        says("d=0:1;d>0:2", -6, 200, -6);
        says("u<99:1", -6, 100, -6);
        says("u=0:1;u>0:2", -6, 100, -6);
        says("p<99:1", 100, 100, -6);
        says("p=0:1;p>0:2", 200, 200, -6);
        says("p<99&w<9:1;w<9&p<99:2;*:3", 100, 100, 300);
    }

    private static void relationsAtTheNumber() {
        edges.of(12, "<, > or =, at the number and beside it");
        says("p<50:1", -6, 100, -6);
        says("p<51:1", 100, 100, -6);
        says("p>50:1", -6, -6, -6);
        says("p>49:1", 100, -6, -6);
        says("p=49:1", -6, -6, -6);
        says("p=50:1", 100, -6, -6);
        says("p=51:1", -6, -6, -6);
        says("d<3:1", -6, -6, -6);
        says("d=3:1", -6, 100, -6);
        says("d>2:1", -6, 100, -6);
        says("m<6:1", 100, -6, -6);
        says("m>6:1", -6, -6, 100);
        says("s>2:1", 100, -6, -6);
        says("s<1:1", -6, 100, -6);
        says("w>6:1", 100, -6, -6);
        says("w<1:1", -6, 100, -6);
        says("y>0:1", -6, -6, 100);
    }

    private static void numbersOfOneOrTwoDigits() {
        edges.of(12, "1 or 2 digits, the least number and the most");
        FallingGlass g = new FallingGlass();
        g.day(0, 9, 0, 0, 0, 0);
        g.day(0, 10, 99, 0, 0, 0);
        String[] texts = {"p<0:1", "p=0:1", "p>0:1", "p<99:1", "p=99:1", "p>99:1", "p=00:1", "m=09:1", "m<10:1",
            "m=1:1", "m=10:1", "u>98:1", "u=99:1", "u<99:1"};
        int[][] due = {{-6, -6}, {100, -6}, {-6, 100}, {100, -6}, {-6, 100}, {-6, -6}, {100, -6}, {100, -6}, {100, -6},
            {-6, -6}, {-6, 100}, {-6, 100}, {-6, 100}, {-6, -6}};
        for (int i = 0; i < texts.length; i++) {
            Due.saying(g, 0, texts[i]);
            edges.is(texts[i] + " of DAY 0", g.odds(2, 0), due[i][0]);
            edges.is(texts[i] + " of DAY 1", g.odds(2, 1), due[i][1]);
        }
    }

    private static void tenthsTold() {
        edges.of(12, "a digit 0 to 9 or x (tenths of RAIN; x ten); 100 times the tenths that it tells");
        for (int tenths = 0; tenths <= 9; tenths++) {
            says("*:" + tenths, 100 * tenths, 100 * tenths, 100 * tenths);
        }
        says("*:x", 1000, 1000, 1000);
    }

    private static void yesterday() {
        edges.of(12, "0 YESTERDAY: 1000, if y is 1, 0, if it is 0");
        FallingGlass g = new FallingGlass();
        rains(g, 0, 0, "10");
        rains(g, 9, 11, "1");
        edges.is("behind a wet DAY", g.odds(0, 1), 1000);
        edges.is("behind a dry DAY, of another YEAR", g.odds(0, 2), 0);
    }

    private static void yesterdayOfFirstDay() {
        edges.of(12, "0 YESTERDAY (or nothing): DAY 0 has no y");
        FallingGlass g = new FallingGlass();
        rains(g, 0, 0, "1");
        edges.is("odds(0, 0)", g.odds(0, 0), -6);
    }

    private static void monthInOtherYears() {
        edges.of(12, "1 MONTH: of all DAYS of that MONTH in other YEARS those with RAIN");
        FallingGlass g = new FallingGlass();
        rains(g, 0, 3, "11");
        rains(g, 1, 3, "00");
        rains(g, 1, 2, "1");
        rains(g, 1, 4, "1");
        edges.is("not its own YEAR", g.odds(1, 0), 0);
        edges.is("not another MONTH", g.odds(1, 3), 1000);
        rains(g, 9, 3, "1");
        edges.is("all other YEARS", g.odds(1, 0), 333);
    }

    private static void monthAtTheEnds() {
        edges.of(12, "of that MONTH (0 to 11)");
        FallingGlass g = new FallingGlass();
        rains(g, 0, 0, "1");
        rains(g, 9, 11, "0");
        edges.is("11 and 0 are not alike", g.odds(1, 0), -6);
        rains(g, 9, 0, "0");
        rains(g, 0, 11, "1");
        edges.is("MONTH 0", g.odds(1, 0), 0);
        edges.is("MONTH 11", g.odds(1, 1), 1000);
    }

    private static void monthWithoutAny() {
        edges.of(12, "MONTH and BOOK: ... (nothing without any), of MONTH");
        FallingGlass g = new FallingGlass();
        rains(g, 0, 3, "11");
        rains(g, 1, 4, "1");
        edges.is("its own YEAR alone", g.odds(1, 0), -6);
        edges.is("another MONTH alone", g.odds(1, 2), -6);
    }

    private static void monthCut() {
        edges.of(12, "1000 times those with RAIN by all, cut, of MONTH");
        FallingGlass g = new FallingGlass();
        rains(g, 0, 3, "0");
        rains(g, 1, 3, "110");
        edges.is("2 of 3", g.odds(1, 0), 666);
        rains(g, 1, 3, "0000");
        edges.is("2 of 7", g.odds(1, 0), 285);
    }

    private static void sayingsAreTellers() {
        edges.of(12, "2 to 5 SAYINGS 0 to 3");
        FallingGlass g = new FallingGlass();
        rains(g, 0, 0, "1");
        for (int saying = 0; saying <= 3; saying++) {
            Due.saying(g, saying, "*:" + (9 - saying));
        }
        for (int teller = 2; teller <= 5; teller++) {
            edges.is("odds(" + teller + ", 0)", g.odds(teller, 0), 100 * (11 - teller));
        }
        edges.is("not 1", g.odds(1, 0), -6);
        edges.is("not 6", g.odds(6, 0), -6);
    }

    private static void bookInOtherYears() {
        edges.of(12, "6 THE BOOK: of all DAYS in other YEARS that are SUCH those with RAIN");
        FallingGlass g = new FallingGlass();
        rains(g, 5, 0, "11");
        rains(g, 4, 0, "0");
        rains(g, 6, 0, "0");
        edges.is("not its own YEAR", g.odds(6, 0), 0);
        edges.is("the last DAY: 2 of 3", g.odds(6, 3), 666);
        edges.is("one of 4: 2 of 3", g.odds(6, 2), 666);
        g.day(0, 0, 50, 2, 0, 1);
        edges.is("not one that is not SUCH", g.odds(6, 0), 0);
    }

    private static void bookCut() {
        edges.of(12, "1000 times those with RAIN by all, cut, of THE BOOK");
        FallingGlass g = new FallingGlass();
        rains(g, 0, 0, "0");
        rains(g, 1, 0, "100000");
        edges.is("1 of 6", g.odds(6, 0), 166);
        rains(g, 1, 0, "1");
        edges.is("2 of 7", g.odds(6, 0), 285);
        edges.is("0 of 1", g.odds(6, 1), 0);
    }

    private static void bookWithoutAny() {
        edges.of(12, "MONTH and BOOK: ... (nothing without any), of THE BOOK");
        FallingGlass g = new FallingGlass();
        rains(g, 0, 0, "11");
        g.day(1, 0, 50, 2, 0, 1);
        edges.is("its own YEAR alone", g.odds(6, 0), -6);
        edges.is("none that is SUCH", g.odds(6, 2), -6);
    }

    private static void wireAtFirst() {
        edges.of(12, "7 THE WIRE: what it told (...; nothing at first)");
        FallingGlass g = new FallingGlass();
        rains(g, 0, 0, "11");
        edges.is("odds(7, 0)", g.odds(7, 0), -6);
        g.wire(0, 5);
        edges.is("odds(7, 0)", g.odds(7, 0), 5);
        edges.is("of the other DAY", g.odds(7, 1), -6);
        g.wire(0, -1);
        edges.is("nothing again", g.odds(7, 0), -6);
    }

    private static void wireEnds() {
        edges.of(12, "what it told (0 to 1000 ...)");
        FallingGlass g = new FallingGlass();
        rains(g, 0, 0, "11");
        g.wire(0, 0);
        g.wire(1, 1000);
        edges.is("0 is not nothing", g.odds(7, 0), 0);
        edges.is("1000", g.odds(7, 1), 1000);
    }

    /** DAY 0, of which THE BOOK says 333 and THE WIRE as told. */
    private static FallingGlass third(int wire) {
        FallingGlass g = new FallingGlass();
        rains(g, 0, 0, "0");
        rains(g, 1, 0, "001");
        g.wire(0, wire);
        return g;
    }

    private static void weightEnds() {
        edges.of(12, "8 JOINED: THE BOOK's times WEIGHT (0 to 10 ...), and THE WIRE's times 10 less that");
        FallingGlass g = third(777);
        g.set(1, 0);
        edges.is("THE WIRE's alone", g.odds(8, 0), 777);
        g.set(1, 10);
        edges.is("THE BOOK's alone", g.odds(8, 0), 333);
        g.set(1, 1);
        edges.is("333 and 6993 by 10", g.odds(8, 0), 732);
        g.set(1, 9);
        edges.is("2997 and 777 by 10", g.odds(8, 0), 377);
    }

    private static void joinedCut() {
        edges.of(12, "by 10, cut once");
        edges.is("1665 and 500 by 10", third(100).odds(8, 0), 216);
        edges.is("1665 and 505 by 10", third(101).odds(8, 0), 217);
        edges.is("1665 and 0 by 10", third(0).odds(8, 0), 166);
        edges.is("1665 and 5000 by 10", third(1000).odds(8, 0), 666);
    }

    private static void joinedWithoutBook() {
        edges.of(12, "JOINED nothing, if one of both does: THE BOOK");
        FallingGlass g = new FallingGlass();
        rains(g, 0, 0, "11");
        g.wire(0, 300);
        for (int weight = 0; weight <= 10; weight += 5) {
            g.set(1, weight);
            edges.is("by WEIGHT " + weight, g.odds(8, 0), -6);
            edges.is("nor THE WIRE, by WEIGHT " + weight, g.odds(8, 1), -6);
        }
    }

    private static void joinedWithoutWire() {
        edges.of(12, "JOINED nothing, if one of both does: THE WIRE");
        FallingGlass g = third(300);
        edges.is("both say", g.odds(8, 0), 316);
        g.wire(0, -1);
        for (int weight = 0; weight <= 10; weight += 5) {
            g.set(1, weight);
            edges.is("by WEIGHT " + weight, g.odds(8, 0), -6);
        }
    }

    private static void tellersOfSixtyDays() {
        edges.of(12, "of all DAYS: DAYS 0 to 59");
        FallingGlass g = new FallingGlass();
        rains(g, 0, 0, "1");
        for (int i = 1; i < 59; i++) {
            rains(g, 1, 0, "0");
        }
        rains(g, 2, 0, "1");
        edges.is("MONTH of DAY 0: 1 of 59", g.odds(1, 0), 16);
        edges.is("MONTH of DAY 59: 1 of 59", g.odds(1, 59), 16);
        edges.is("MONTH of DAY 30: 2 of 2", g.odds(1, 30), 1000);
        edges.is("THE BOOK of DAY 0", g.odds(6, 0), 16);
        edges.is("THE BOOK of DAY 59", g.odds(6, 59), 16);
        edges.is("THE BOOK of DAY 30", g.odds(6, 30), 1000);
        edges.is("YESTERDAY of DAY 59", g.odds(0, 59), 0);
        edges.is("odds(1, 60)", g.odds(1, 60), -1);
    }
}
