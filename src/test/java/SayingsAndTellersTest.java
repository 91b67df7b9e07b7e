/** Promises 8 to 15: sayings, tellers. */
public final class SayingsAndTellersTest {
    private static final int LOW = Integer.MIN_VALUE;
    private static final int HIGH = Integer.MAX_VALUE;
    private static final Due DUE = new Due("SayingsAndTellersTest");

    public static void main(String[] args) {
        signs();
        faults();
        sayingsMade();
        sayingsRefused();
        sayingsTell();
        everyTest();
        yesterday();
        month();
        bookByEachKey();
        bookWithoutLooks();
        wires();
        joined();
        settings();
        oddsRefused();
        DUE.end();
    }

    private static void signs() {
        FallingGlass g = new FallingGlass();
        for (int v : new int[] {32, 127, 0, -1, LOW, HIGH, 65536 + 'p'}) {
            DUE.is("say " + v, g.say(v), -2);
        }
        for (int i = 1; i <= 50; i++) {
            DUE.is("say", g.say(i % 2 == 0 ? 33 : 126), i);
        }
        DUE.is("say the 51st", g.say(33), -4);
        DUE.is("OUTSIDE ahead of FULL", g.say(32), -2);
        DUE.is("told signs", g.told(1), 50);
        DUE.is("wipe", g.wipe(), 50);
        DUE.is("told signs", g.told(1), 0);
        DUE.is("wipe again", g.wipe(), 0);
        DUE.is("say after wipe", g.say('p'), 1);
    }

    private static int faultOf(String signs) {
        FallingGlass g = new FallingGlass();
        Due.say(g, signs);
        int fault = g.fault();
        DUE.is("signs stay: " + signs, g.told(1), signs.length());
        return fault;
    }

    private static void faults() {
        String[] good = {"*:0", "*:9", "*:x", "p<0:1", "p>99:x", "w=7:3", "s=3&m<6:0", "y=1&d>5&u=0:4", "*:1;*:2",
            "p<1:1;*:2;u<22&d=3:x", "p<1&p<2&p<3&p<4&p<5&p<6&p<7&p<8&p<9&p<9&p<9&p<9:1"};
        for (String signs : good) {
            DUE.is("fault of " + signs, faultOf(signs), -6);
        }
        String[] more = {"", "p", "p<", "p<1", "p<12", "p<12:", "p<1&", "p<1&w", "p<1&w=", "p<1&w=2", "*", "*:",
            "*:1;", "*:1;*", "*:1;p<1", "p<1&p<2&p<3&p<4&p<5&p<6&p<7&p<8&p<9&p<9&p<9&p<99"};
        for (String signs : more) {
            DUE.is("more must come: " + signs, faultOf(signs), signs.length());
        }
        String[] bad = {"x", "q", "P", "1", ";", ":", "&", "<", "pp", "p*", "p1", "p:", "p;", "p<x", "p<:", "p<<",
            "p<123", "p<1x", "p<1;", "p<1<", "p<1p", "p<12&*", "p<1&&", "p<1&:", "p<1&;", "p<1&1", "p<1:*",
            "p<1:y", "p<1:;", "p<1:X", "p<1:12", "p<1:xx", "p<1:1:", "p<1:1&", "p<1:1p", "*&", "*p", "**", "*;", "*1",
            "*:*", "*:10", "*:1*", "*:1;;", "*:1;:", "*:1;&", "*:1;x", "p!", "p-", "p<1~", "p<\"", "p</"};
        for (String signs : bad) {
            DUE.is("fault of " + signs, faultOf(signs), signs.length() - 1);
            DUE.is("the first fault of " + signs, faultOf(signs + "!!"), signs.length() - 1);
        }
    }

    private static void sayingsMade() {
        FallingGlass g = new FallingGlass();
        for (int n = 0; n < 4; n++) {
            DUE.is("one case", Due.saying(g, n, "*:" + n), 1);
            DUE.is("told cases", g.told(10 + n), 1);
            DUE.is("signs are gone", g.told(1), 0);
        }
        g.day(0, 0, 0, 0, 0, 0);
        for (int n = 0; n < 4; n++) {
            DUE.is("each tells its own", g.odds(2 + n, 0), 100 * n);
        }
        DUE.is("twelve cases", Due.saying(g, 2, "*:1;*:1;*:1;*:1;*:1;*:1;*:1;*:1;*:1;*:1;*:1;*:1"), 12);
        DUE.is("told twelve", g.told(12), 12);
        DUE.is("two cases instead", Due.saying(g, 2, "p<9&w<9:7;*:1"), 2);
        DUE.is("told two", g.told(12), 2);
        DUE.is("new text tells", g.odds(4, 0), 700);
        DUE.is("no signs", g.saying(2), 0);
        DUE.is("told none", g.told(12), 0);
        DUE.is("says nothing", g.odds(4, 0), -6);
        DUE.is("others stay", g.odds(5, 0), 300);
        Due.saying(g, 2, "p>0:1;*:2;*:3");
        DUE.is("a shorter text", Due.saying(g, 2, "p>0:1"), 1);
        DUE.is("told its cases alone", g.told(12), 1);
        DUE.is("says its own alone", g.odds(4, 0), -6);
        DUE.is("the text is its own", Due.saying(g, 0, "*:5"), 1);
        Due.say(g, "p>9");
        DUE.is("the pad does not change it", g.odds(2, 0), 500);
    }

    private static void sayingsRefused() {
        FallingGlass g = new FallingGlass();
        Due.saying(g, 1, "*:5");
        Due.say(g, "*:");
        for (int v : new int[] {-1, 4, LOW, HIGH}) {
            DUE.is("saying " + v, g.saying(v), -1);
        }
        DUE.is("more must come", g.saying(1), -5);
        DUE.is("signs stay", g.told(1), 2);
        DUE.is("the saying stays", g.told(11), 1);
        g.say('!');
        DUE.is("a fault", g.saying(1), -5);
        g.wipe();
        g.say('*');
        DUE.is("one sign", g.saying(1), -5);
        g.wipe();
        DUE.is("UNKNOWN with an empty pad", g.saying(4), -1);
        DUE.is("told signs", g.told(1), 0);
    }

    private static void sayingsTell() {
        FallingGlass g = new FallingGlass();
        g.day(0, 5, 44, 6, 1, 1);
        g.day(0, 5, 50, 2, 3, 0);
        g.day(0, 6, -1, 0, 0, 1);
        g.day(0, 7, 30, 0, 0, 1);
        Due.saying(g, 0, "p<45&w=6:9;p<45:2;y=0:1");
        long[] due = {900, -6, 100, 200};
        for (int day = 0; day < due.length; day++) {
            DUE.is("first case that fits " + day, g.odds(2, day), due[day]);
        }
        Due.saying(g, 0, "p<45:2;p<45&w=6:9;s=3:x;*:0");
        long[] then = {200, 1000, 0, 200};
        for (int day = 0; day < then.length; day++) {
            DUE.is("in order " + day, g.odds(2, day), then[day]);
        }
        Due.saying(g, 0, "d<99:3;u<99:4;p<99:5");
        long[] has = {500, 300, -6, 500};
        for (int day = 0; day < has.length; day++) {
            DUE.is("a test of what it has not " + day, g.odds(2, day), has[day]);
        }
        Due.saying(g, 0, "m=5&m=6:1;m=6&m=6&s=1:2;m=5&s=1&w=6:3");
        long[] all = {300, -6, -6, -6};
        for (int day = 0; day < all.length; day++) {
            DUE.is("all tests of a case " + day, g.odds(2, day), all[day]);
        }
        for (int tenths = 0; tenths < 10; tenths++) {
            Due.saying(g, 3, "*:" + tenths);
            DUE.is("tenths", g.odds(5, 0), 100 * tenths);
        }
        Due.saying(g, 3, "*:x");
        DUE.is("x is ten", g.odds(5, 0), 1000);
    }

    private static FallingGlass threeDays() {
        FallingGlass g = new FallingGlass();
        g.day(1, 1, 60, 1, 1, 1);
        g.day(2, 9, 47, 6, 2, 0);
        g.day(2, 9, 59, 6, 2, 0);
        return g;
    }

    /** Each letter by each relation, at its own number and beside it. */
    private static void everyTest() {
        String letters = "pwsmydu";
        for (int day = 1; day <= 2; day++) {
            for (int i = 0; i < letters.length(); i++) {
                FallingGlass g = threeDays();
                int look = g.look(day, i);
                for (int number = Math.max(0, look - 1); number <= look + 1; number++) {
                    String head = "" + letters.charAt(i);
                    Due.saying(g, 0, head + "<" + number + ":1");
                    DUE.is(head + "<" + number, g.odds(2, day), look < number ? 100 : -6);
                    Due.saying(g, 0, head + ">" + number + ":1");
                    DUE.is(head + ">" + number, g.odds(2, day), look > number ? 100 : -6);
                    Due.saying(g, 0, head + "=" + number + ":1");
                    DUE.is(head + "=" + number, g.odds(2, day), look == number ? 100 : -6);
                }
            }
        }
        FallingGlass g = threeDays();
        DUE.is("d of 1", g.look(1, 5), 13);
        DUE.is("u of 2", g.look(2, 6), 12);
        Due.saying(g, 0, "w=06:2");
        DUE.is("a 0 ahead", g.odds(2, 1), 200);
    }

    private static void yesterday() {
        FallingGlass g = new FallingGlass();
        g.day(0, 0, 0, 0, 0, 1);
        g.day(9, 0, 0, 0, 0, 0);
        g.day(0, 0, 0, 0, 0, 0);
        DUE.is("first", g.odds(0, 0), -6);
        DUE.is("wet", g.odds(0, 1), 1000);
        DUE.is("dry", g.odds(0, 2), 0);
    }

    private static void month() {
        FallingGlass g = new FallingGlass();
        g.day(0, 3, 0, 0, 0, 1);
        g.day(0, 3, 0, 0, 0, 1);
        g.day(1, 3, 0, 0, 0, 0);
        g.day(1, 4, 0, 0, 0, 1);
        g.day(2, 3, 0, 0, 0, 0);
        g.day(2, 3, 0, 0, 0, 1);
        long[] due = {333, 333, 750, -6, 666, 666};
        for (int day = 0; day < due.length; day++) {
            DUE.is("month of " + day, g.odds(1, day), due[day]);
        }
    }

    /** A day and, in other years, days that differ by one look alone, at the ends of each kind. */
    private static void bookByEachKey() {
        likeBy(1, new int[] {20, 0}, new int[][] {{19, 0}, {20, 1}, {39, 1}, {40, 0}});
        likeBy(1, new int[] {99, 0}, new int[][] {{79, 0}, {80, 1}, {99, 1}, {0, 0}});
        likeBy(4, new int[] {2, 1}, new int[][] {{1, 0}, {2, 1}, {3, 1}, {4, 0}});
        likeBy(4, new int[] {7, 1}, new int[][] {{5, 0}, {6, 1}, {7, 1}, {0, 0}});
        likeBy(8, new int[] {1, 2}, new int[][] {{0, 0}, {1, 1}, {2, 0}, {3, 0}});
        likeBy(16, new int[] {4, 3}, new int[][] {{2, 0}, {3, 1}, {5, 1}, {6, 0}});
        likeBy(16, new int[] {11, 3}, new int[][] {{8, 0}, {9, 1}, {10, 1}, {0, 0}});
        falls();
        aheads();
        keysTogether();
    }

    private static void likeBy(int keys, int[] one, int[][] others) {
        FallingGlass g = new FallingGlass();
        int[] look = {50, 0, 0, 0};
        look[one[1]] = one[0];
        g.day(0, look[3], look[0], look[1], look[2], 0);
        int like = 0;
        for (int[] other : others) {
            look[one[1]] = other[0];
            g.day(1, look[3], look[0], look[1], look[2], 1);
            like += other[1];
            g.set(0, keys);
            DUE.is("such by " + keys + " with " + other[0], g.such(0, 0), like);
            DUE.is("wet such by " + keys, g.such(0, 1), like);
        }
        g.day(0, look[3], one[1] == 0 ? one[0] : 50, look[1], look[2], 1);
        DUE.is("its own year does not count", g.such(0, 0), like);
        DUE.is("odds by " + keys, g.odds(6, 0), 1000);
    }

    private static void falls() {
        FallingGlass g = new FallingGlass();
        int[] presses = {50, 50, 49, 45, 40, 30, 31};
        for (int i = 0; i < presses.length; i++) {
            g.day(i, 0, presses[i], 0, 0, i % 2);
        }
        g.set(0, 2);
        // d: none, 0, 1, 4, 5, 10, 0
        long[] like = {0, 1, 1, 1, 1, 1, 1};
        long[] wet = {0, 0, 1, 0, 1, 0, 1};
        for (int day = 0; day < like.length; day++) {
            DUE.is("such by fall " + day, g.such(day, 0), like[day]);
            DUE.is("wet such by fall " + day, g.such(day, 1), wet[day]);
        }
    }

    private static void aheads() {
        FallingGlass g = new FallingGlass();
        int[] rains = {1, 1, 0, 0, 1};
        for (int i = 0; i < rains.length; i++) {
            g.day(i, 0, 50, 0, 0, rains[i]);
        }
        g.set(0, 32);
        // y: none, 1, 1, 0, 0
        long[] like = {0, 1, 1, 1, 1};
        long[] wet = {0, 0, 1, 1, 0};
        for (int day = 0; day < like.length; day++) {
            DUE.is("such by y " + day, g.such(day, 0), like[day]);
            DUE.is("wet such by y " + day, g.such(day, 1), wet[day]);
        }
        DUE.is("nothing of day 0", g.odds(6, 0), -6);
        DUE.is("odds by y", g.odds(6, 1), 0);
    }

    private static void keysTogether() {
        FallingGlass g = new FallingGlass();
        g.day(0, 0, 50, 0, 0, 0);
        g.day(1, 0, 50, 1, 0, 1);
        g.day(2, 0, 50, 0, 1, 1);
        g.day(3, 0, 70, 0, 0, 0);
        g.day(4, 6, 50, 0, 0, 1);
        int[][] due = {{0, 4, 750}, {1, 3, 1000}, {4, 4, 750}, {8, 3, 666}, {16, 3, 666}, {9, 2, 1000}, {25, 1, 1000},
            {29, 1, 1000}, {31, 0, -6}, {63, 0, -6}};
        for (int[] row : due) {
            g.set(0, row[0]);
            DUE.is("such by " + row[0], g.such(0, 0), row[1]);
            DUE.is("odds by " + row[0], g.odds(6, 0), row[2]);
        }
        DUE.is("such what 2", g.such(0, 2), -2);
        DUE.is("such what -1", g.such(0, -1), -2);
        DUE.is("such day 5", g.such(5, 2), -1);
        DUE.is("such day -1", g.such(-1, 0), -1);
    }

    private static void bookWithoutLooks() {
        FallingGlass g = new FallingGlass();
        g.day(0, 0, -1, 0, 0, 1);
        g.day(1, 0, -1, 0, 0, 1);
        g.day(2, 0, 10, 0, 0, 1);
        g.set(0, 1);
        for (int day = 0; day < 3; day++) {
            DUE.is("two without press are not such " + day, g.such(day, 0), 0);
        }
        g.set(0, 2);
        for (int day = 0; day < 3; day++) {
            DUE.is("two without fall are not such " + day, g.such(day, 0), 0);
        }
        g.set(0, 0);
        DUE.is("by no keys all of other years", g.such(0, 0), 2);
    }

    private static void wires() {
        FallingGlass g = new FallingGlass();
        g.day(0, 0, 0, 0, 0, 1);
        g.day(1, 0, 0, 0, 0, 1);
        DUE.is("nothing yet", g.wire(0, -1), -6);
        DUE.is("nothing yet", g.wire(0, 0), -6);
        DUE.is("odds 0", g.odds(7, 0), 0);
        DUE.is("was 0", g.wire(0, 1000), 0);
        DUE.is("odds 1000", g.odds(7, 0), 1000);
        DUE.is("the other day", g.odds(7, 1), -6);
        DUE.is("was 1000", g.wire(0, -1), 1000);
        DUE.is("nothing again", g.odds(7, 0), -6);
        DUE.is("was nothing", g.wire(0, 5), -6);
        for (int v : new int[] {-2, 1001, LOW, HIGH}) {
            DUE.is("wire " + v, g.wire(0, v), -2);
        }
        for (int day : new int[] {-1, 2, 60, LOW, HIGH}) {
            DUE.is("wire of day " + day, g.wire(day, 2000), -1);
        }
        DUE.is("refused changes nothing", g.odds(7, 0), 5);
    }

    private static void joined() {
        FallingGlass g = new FallingGlass();
        g.day(0, 0, 0, 0, 0, 1);
        g.day(1, 0, 0, 0, 0, 1);
        g.day(1, 0, 0, 0, 0, 0);
        g.day(1, 0, 0, 0, 0, 1);
        DUE.is("without a wire", g.odds(8, 0), -6);
        g.wire(0, 107);
        // the book says 666
        long[] due = {107, 162, 218, 274, 330, 386, 442, 498, 554, 610, 666};
        for (int weight = 0; weight <= 10; weight++) {
            g.set(1, weight);
            DUE.is("joined by " + weight, g.odds(8, 0), due[weight]);
        }
        DUE.is("without a wire by weight 10", g.odds(8, 1), -6);
        g.day(2, 0, 0, 5, 0, 1);
        g.wire(4, 300);
        g.set(1, 0);
        DUE.is("without the book by weight 0", g.odds(8, 4), -6);
    }

    private static void settings() {
        FallingGlass g = new FallingGlass();
        int[] first = {4, 5, 3};
        int[] most = {63, 10, 20};
        for (int which = 0; which < 3; which++) {
            DUE.is("set least", g.set(which, 0), first[which]);
            DUE.is("set most", g.set(which, most[which]), 0);
            DUE.is("told", g.told(4 + which), most[which]);
            for (int v : new int[] {-1, most[which] + 1, LOW, HIGH}) {
                DUE.is("set " + which + " " + v, g.set(which, v), -2);
            }
        }
        for (int which : new int[] {-1, 3, LOW, HIGH}) {
            DUE.is("set which " + which, g.set(which, 0), -2);
        }
        for (int which = 0; which < 3; which++) {
            DUE.is("refused changes nothing", g.told(4 + which), most[which]);
        }
    }

    private static void oddsRefused() {
        FallingGlass g = new FallingGlass();
        g.day(0, 0, 0, 0, 0, 1);
        for (int v : new int[] {-1, 9, LOW, HIGH}) {
            DUE.is("odds of teller " + v, g.odds(v, 0), -1);
        }
        for (int teller = 0; teller < 9; teller++) {
            for (int day : new int[] {-1, 1, 60, LOW, HIGH}) {
                DUE.is("odds of day " + day, g.odds(teller, day), -1);
            }
            DUE.is("nothing at first " + teller, g.odds(teller, 0), -6);
        }
    }
}
