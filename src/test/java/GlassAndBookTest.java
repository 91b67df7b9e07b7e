/** Promises 1 to 7: a new object, the glass, the book. */
public final class GlassAndBookTest {
    private static final int LOW = Integer.MIN_VALUE;
    private static final int HIGH = Integer.MAX_VALUE;
    private static final Due DUE = new Due("GlassAndBookTest");

    public static void main(String[] args) {
        newObject();
        needleLagsAndSticks();
        tapping();
        sticking();
        hoursRefused();
        daysWritten();
        daysRefused();
        tearing();
        looks();
        looksWithoutPress();
        looksRefused();
        DUE.end();
    }

    private static void newObject() {
        FallingGlass g = new FallingGlass();
        int[] told = {0, 0, 50, 2, 4, 5, 3, 0};
        for (int what = 0; what < told.length; what++) {
            DUE.is("new told " + what, g.told(what), told[what]);
        }
        for (int what = 10; what <= 13; what++) {
            DUE.is("new told " + what, g.told(what), 0);
        }
        DUE.is("new tap", g.tap(), 0);
        DUE.is("new wipe", g.wipe(), 0);
        DUE.is("new clear", g.clear(), 0);
        DUE.is("new look", g.look(0, 0), -1);
        DUE.is("new may", g.may(-1, 0), 729);
        DUE.is("new restore 0", g.restore(0), -3);
        DUE.is("new restore 1", g.restore(1), -3);
        FallingGlass other = new FallingGlass();
        other.hour(99);
        other.day(0, 0, 0, 0, 0, 0);
        DUE.is("objects are apart", g.told(0), 0);
        DUE.is("needles are apart", g.told(2), 50);
    }

    private static void needleLagsAndSticks() {
        FallingGlass g = new FallingGlass();
        DUE.is("mind 51, not far", g.hour(53), 50);
        DUE.is("mind 52, two is not farther than STICK", g.hour(54), 50);
        DUE.is("mind 53, three is", g.hour(54), 53);
        DUE.is("mind 51", g.hour(50), 53);
        DUE.is("mind 50", g.hour(50), 50);
        DUE.is("down to 25", g.hour(0), 25);
        DUE.is("12", g.hour(0), 12);
        DUE.is("6", g.hour(0), 6);
        DUE.is("3", g.hour(0), 3);
        DUE.is("1, two away", g.hour(0), 3);
        DUE.is("0", g.hour(0), 0);
        DUE.is("49", g.hour(99), 49);
        DUE.is("the mind goes on from itself, not from the needle", g.hour(52), 49);
        DUE.is("told needle", g.told(2), 49);
        DUE.is("mind 51 after 50", g.hour(53), 49);
        DUE.is("tap tells the mind", g.tap(), 2);
    }

    private static void tapping() {
        FallingGlass g = new FallingGlass();
        g.hour(53);
        DUE.is("tap up", g.tap(), 1);
        DUE.is("needle after tap", g.told(2), 51);
        DUE.is("tap again", g.tap(), 0);
        g.hour(48);
        DUE.is("tap down", g.tap(), -2);
        DUE.is("needle after tap down", g.told(2), 49);
        g.stick(9);
        g.hour(32);
        DUE.is("tap down far", g.tap(), -9);
        g.hour(60);
        DUE.is("needle went by itself", g.tap(), 0);
    }

    private static void sticking() {
        FallingGlass g = new FallingGlass();
        DUE.is("stick 0", g.stick(0), 2);
        DUE.is("told stick", g.told(3), 0);
        DUE.is("one is farther than 0", g.hour(52), 51);
        DUE.is("stick 9", g.stick(9), 0);
        DUE.is("60 is nine away", g.hour(69), 51);
        DUE.is("stick does not move the needle", g.stick(0), 9);
        DUE.is("needle stays", g.told(2), 51);
        DUE.is("hour moves it", g.hour(60), 60);
        g.stick(9);
        DUE.is("70 is ten away", g.hour(80), 70);
        for (int v : new int[] {-1, 10, LOW, HIGH}) {
            DUE.is("stick " + v, g.stick(v), -2);
        }
        DUE.is("refused changes nothing", g.told(3), 9);
    }

    private static void hoursRefused() {
        FallingGlass g = new FallingGlass();
        for (int v : new int[] {-1, 100, LOW, HIGH}) {
            DUE.is("hour " + v, g.hour(v), -2);
        }
        DUE.is("nothing moved", g.tap(), 0);
        DUE.is("hour 99", g.hour(99), 74);
        DUE.is("hour 0", g.hour(0), 37);
    }

    private static void daysWritten() {
        FallingGlass g = new FallingGlass();
        for (int i = 0; i < 60; i++) {
            DUE.is("day " + i, g.day(i % 10, i % 12, i % 100, i % 8, i % 4, i % 2), i);
        }
        DUE.is("one too many", g.day(0, 0, 0, 0, 0, 0), -4);
        DUE.is("OUTSIDE ahead of FULL", g.day(10, 0, 0, 0, 0, 0), -2);
        DUE.is("told days", g.told(0), 60);
        DUE.is("last day", g.look(59, 7), 9);
        DUE.is("room again", g.tear(), 59);
        DUE.is("written again", g.day(9, 11, 99, 7, 3, 1), 59);
        DUE.is("year 9", g.look(59, 7), 9);
        DUE.is("month 11", g.look(59, 3), 11);
        DUE.is("press 99", g.look(59, 0), 99);
        DUE.is("wind 7", g.look(59, 1), 7);
        DUE.is("sky 3", g.look(59, 2), 3);
        DUE.is("rain 1", g.look(59, 8), 1);
        DUE.is("years may go back", new FallingGlass().day(9, 0, 0, 0, 0, 0), 0);
    }

    private static void daysRefused() {
        FallingGlass g = new FallingGlass();
        int[] good = {0, 0, 0, 0, 0, 0};
        int[] most = {9, 11, 99, 7, 3, 1};
        int[] least = {0, 0, -1, 0, 0, 0};
        for (int i = 0; i < good.length; i++) {
            for (int v : new int[] {least[i] - 1, most[i] + 1, LOW, HIGH}) {
                int[] a = good.clone();
                a[i] = v;
                DUE.is("day with " + v + " at " + i, g.day(a[0], a[1], a[2], a[3], a[4], a[5]), -2);
            }
        }
        DUE.is("none was written", g.told(0), 0);
        DUE.is("least of all", g.day(0, 0, -1, 0, 0, 0), 0);
        DUE.is("most of all", g.day(9, 11, 99, 7, 3, 1), 1);
    }

    private static void tearing() {
        FallingGlass g = new FallingGlass();
        DUE.is("nothing to tear", g.tear(), -5);
        g.day(0, 0, 10, 0, 0, 1);
        g.day(0, 0, 20, 0, 0, 0);
        g.wire(1, 700);
        DUE.is("one left", g.tear(), 1);
        DUE.is("torn day is unknown", g.look(1, 0), -1);
        DUE.is("torn day has no odds", g.odds(7, 1), -1);
        g.day(1, 1, 30, 1, 1, 0);
        DUE.is("a new day has no wire", g.odds(7, 1), -6);
        DUE.is("new press", g.look(1, 0), 30);
        DUE.is("one left", g.tear(), 1);
        DUE.is("none left", g.tear(), 0);
        DUE.is("nothing to tear", g.tear(), -5);
        DUE.is("told days", g.told(0), 0);
    }

    private static void looks() {
        FallingGlass g = new FallingGlass();
        g.day(3, 4, 50, 5, 2, 1);
        g.day(5, 11, 43, 7, 3, 0);
        g.day(4, 0, 43, 0, 0, 0);
        g.day(4, 0, 60, 1, 1, 1);
        long[][] due = {
            {50, 5, 2, 4, -6, -6, -6, 3, 1},
            {43, 7, 3, 11, 1, 7, 0, 5, 0},
            {43, 0, 0, 0, 0, 0, 0, 4, 0},
            {60, 1, 1, 0, 0, 0, 17, 4, 1},
        };
        for (int day = 0; day < due.length; day++) {
            for (int what = 0; what < 9; what++) {
                DUE.is("look " + day + " " + what, g.look(day, what), due[day][what]);
            }
        }
    }

    private static void looksWithoutPress() {
        FallingGlass g = new FallingGlass();
        g.day(0, 0, 50, 0, 0, 1);
        g.day(0, 0, -1, 0, 0, 1);
        g.day(0, 0, 40, 0, 0, 1);
        g.day(0, 0, 0, 0, 0, 1);
        long[][] due = {{50, -6, -6}, {-6, -6, -6}, {40, -6, -6}, {0, 40, 0}};
        for (int day = 0; day < due.length; day++) {
            DUE.is("p of " + day, g.look(day, 0), due[day][0]);
            DUE.is("d of " + day, g.look(day, 5), due[day][1]);
            DUE.is("u of " + day, g.look(day, 6), due[day][2]);
        }
        DUE.is("y behind a day without press", g.look(2, 4), 1);
    }

    private static void looksRefused() {
        FallingGlass g = new FallingGlass();
        g.day(0, 0, 50, 0, 0, 1);
        for (int v : new int[] {-1, 1, 60, LOW, HIGH}) {
            DUE.is("look day " + v, g.look(v, 0), -1);
            DUE.is("UNKNOWN ahead of OUTSIDE " + v, g.look(v, 9), -1);
        }
        for (int v : new int[] {-1, 9, LOW, HIGH}) {
            DUE.is("look what " + v, g.look(0, v), -2);
        }
    }
}
