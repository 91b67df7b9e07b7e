/** Promises 24 to 33: the low, hay, belief, images, what is told. */
public final class LowAndHayTest {
    private static final int LOW = Integer.MIN_VALUE;
    private static final int HIGH = Integer.MAX_VALUE;
    private static final long LOST = FallingGlass.LOST;
    private static final int GONE = FallingGlass.GONE;
    private static final Due DUE = new Due("LowAndHayTest");

    public static void main(String[] args) {
        looksTaken();
        looksRefused();
        eighths();
        presses();
        twoGlasses();
        oddsOfPlaces();
        placesRefused();
        hay();
        hayRefused();
        belief();
        beliefRefused();
        images();
        imagesRefused();
        told();
        DUE.end();
    }

    private static void looksTaken() {
        FallingGlass g = new FallingGlass();
        for (int i = 1; i <= 4; i++) {
            DUE.is("glass", g.glass(i, i, 80, 0), i);
            DUE.is("told looks", g.told(7), i);
        }
        DUE.is("one too many", g.glass(0, 0, 80, 0), -4);
        DUE.is("OUTSIDE ahead of FULL", g.glass(9, 0, 80, 0), -2);
        DUE.is("clear", g.clear(), 4);
        DUE.is("told looks", g.told(7), 0);
        DUE.is("clear again", g.clear(), 0);
        DUE.is("all may be", g.may(-1, 0), 729);
        DUE.is("glass after clear", g.glass(0, 0, 80, 0), 1);
    }

    private static void looksRefused() {
        FallingGlass g = new FallingGlass();
        int[] most = {8, 8, 99, 7};
        for (int i = 0; i < 4; i++) {
            for (int v : new int[] {-1, most[i] + 1, LOW, HIGH}) {
                int[] a = {0, 0, 0, 0};
                a[i] = v;
                DUE.is("glass with " + v + " at " + i, g.glass(a[0], a[1], a[2], a[3]), -2);
            }
        }
        DUE.is("none taken", g.told(7), 0);
        DUE.is("least", g.glass(0, 0, 0, 0), 1);
        DUE.is("most", g.glass(8, 8, 99, 7), 2);
    }

    /** From a glass at (4, 4) with a wide CARE: which places lie towards each eighth. */
    private static void eighths() {
        String[] map = {
            "777000111",
            "777000111",
            "777701111",
            "667701122",
            "6666.2222",
            "665543322",
            "555543333",
            "555444333",
            "555444333",
        };
        for (int wind = 0; wind < 8; wind++) {
            FallingGlass g = new FallingGlass();
            g.set(2, 20);
            g.glass(4, 4, 75, wind);
            int towards = (wind + 2) % 8;
            for (int y = 0; y < 9; y++) {
                for (int x = 0; x < 9; x++) {
                    boolean may = map[8 - y].charAt(x) == '0' + towards;
                    DUE.is("wind " + wind + " low at " + x + " " + y, g.may(x, y) > 0 ? 1 : 0, may ? 1 : 0);
                }
            }
        }
    }

    private static void presses() {
        FallingGlass g = new FallingGlass();
        g.set(2, 0);
        g.glass(4, 4, 90, 6);
        // N of it, FAR 1: DEEP such that 10 DEEP <= 8: none; FAR 2: 1; FAR 3: 1, 2; FAR 4: 1, 2, 3
        DUE.is("far 1", g.may(4, 5), 0);
        DUE.is("far 2", g.may(4, 6), 1);
        DUE.is("far 3", g.may(4, 7), 2);
        DUE.is("far 4", g.may(4, 8), 3);
        DUE.is("far 4 beside", g.may(5, 8), 3);
        DUE.is("all", g.may(-1, 0), 1 + 3 * 2 + 3 * 3);
        g.clear();
        g.glass(4, 4, 8, 6);
        DUE.is("the deepest beside it", g.may(4, 5), 1);
        DUE.is("all of 8", g.may(-1, LOW), 1);
        g.clear();
        g.glass(4, 4, 7, 6);
        DUE.is("lower than can be", g.may(-1, HIGH), 0);
        g.set(2, 1);
        DUE.is("by care it can", g.may(-1, 0), 1);
        g.clear();
        g.glass(4, 4, 9, 6);
        DUE.is("by care the other way", g.may(4, 5), 1);
        g.set(2, 0);
        DUE.is("without care not", g.may(4, 5), 0);
        g.set(2, 11);
        DUE.is("18 is 9 away", g.may(4, 5), 2);
        g.set(2, 8);
        DUE.is("18 is farther than 8", g.may(4, 5), 1);
    }

    private static void twoGlasses() {
        FallingGlass g = new FallingGlass();
        g.set(2, 0);
        // A low at (6, 5), DEEP 7: from (2, 5) E, FAR 4: 90 - 38; from (6, 1) N, FAR 4: 90 - 38.
        g.glass(2, 5, 52, 0);
        g.glass(6, 1, 52, 6);
        // Two glasses tell it all: DEEP 7 by FAR 4 alone gives 52.
        DUE.is("at the low", g.may(6, 5), 1);
        DUE.is("all ways", g.may(-1, 0), 1);
        DUE.is("odds upper", g.low(6, 5, 0), 1);
        DUE.is("odds lower", g.low(6, 5, 1), 1);
        DUE.is("odds elsewhere upper", g.low(5, 5, 0), 0);
        DUE.is("odds elsewhere lower", g.low(5, 5, 1), 1);
        g.glass(6, 5, 20, 0);
        DUE.is("not at a glass's own place", g.may(-1, 0), 0);
        DUE.is("nothing fits", g.low(6, 5, 0), LOST - 5);
    }

    private static void oddsOfPlaces() {
        FallingGlass g = new FallingGlass();
        DUE.is("without looks upper", g.low(0, 0, 0), 1);
        DUE.is("without looks lower", g.low(8, 8, 1), 81);
        g.set(2, 0);
        g.glass(4, 4, 90, 6);
        DUE.is("3 of 16", g.low(4, 8, 0), 3);
        DUE.is("3 of 16", g.low(4, 8, 1), 16);
        DUE.is("2 of 16", g.low(4, 7, 0), 1);
        DUE.is("2 of 16", g.low(4, 7, 1), 8);
        DUE.is("none of 16", g.low(4, 4, 0), 0);
        DUE.is("none of 16", g.low(4, 4, 1), 1);
    }

    private static void placesRefused() {
        FallingGlass g = new FallingGlass();
        for (int v : new int[] {9, LOW, HIGH, -2}) {
            DUE.is("may x " + v, g.may(v, 0), -2);
            DUE.is("may y " + v, g.may(0, v), -2);
            DUE.is("low x " + v, g.low(v, 0, 0), LOST - 2);
            DUE.is("low y " + v, g.low(0, v, 0), LOST - 2);
        }
        DUE.is("may y -1", g.may(0, -1), -2);
        DUE.is("low x -1", g.low(-1, 0, 0), LOST - 2);
        DUE.is("low y -1", g.low(0, -1, 0), LOST - 2);
        g.glass(0, 0, 0, 0);
        DUE.is("nothing fits", g.may(-1, 0), 0);
        for (int v : new int[] {-1, 2, LOW, HIGH}) {
            DUE.is("OUTSIDE ahead of NO: low part " + v, g.low(0, 0, v), LOST - 2);
        }
    }

    private static void hayIs(int[] a, int value, int does) {
        FallingGlass g = new FallingGlass();
        String call = "(" + a[0] + ", " + a[1] + ", " + a[2] + ", " + a[3] + ", " + a[4] + ", " + a[5] + ", " + a[6] + ")";
        DUE.is("hay" + call, g.hay(a[0], a[1], a[2], a[3], a[4], a[5], a[6]), value);
        DUE.is("does" + call, g.does(a[0], a[1], a[2], a[3], a[4], a[5], a[6]), does);
    }

    private static void hay() {
        hayIs(new int[] {0, 1, 0, 1, 10, 0, 0}, 10000, 1);
        hayIs(new int[] {3, 1, 0, 1, 10, 5, 0}, 15 * 700 - 5000, 1);
        hayIs(new int[] {0, 1, 1, 1, 10, 0, 0}, 0, 0);
        hayIs(new int[] {0, 1, 0, 2, 10, 0, 0}, 0, 0);
        hayIs(new int[] {0, 2, 0, 2, 10, 0, 0}, 10000, 1);
        hayIs(new int[] {0, 2, 1, 2, 10, 0, 0}, 0, 0);
        hayIs(new int[] {0, 2, 0, 3, 10, 0, 0}, 0, 0);
        hayIs(new int[] {123, 3, 0, 3, 100, 50, 0}, 150 * 504 - 50000, 1);
        hayIs(new int[] {123, 3, 0, 2, 100, 50, 0}, 150 * 720 - 50000, 1);
        hayIs(new int[] {123, 3, 1, 2, 100, 50, 0}, 150 * 560 - 50000, 1);
        hayIs(new int[] {321, 3, 0, 2, 100, 50, 3}, 150 * 720 - 50000 - 3000, 2);
        hayIs(new int[] {321, 3, 1, 2, 100, 50, 3}, 150 * 720 - 50000, 1);
        hayIs(new int[] {321, 3, 2, 2, 100, 50, 3}, 0, 0);
        // The first day dry by 800, the second by 900: waiting for 100 * 100 is as good at 10.
        hayIs(new int[] {21, 2, 0, 1, 100, 0, 10}, 80000, 1);
        hayIs(new int[] {21, 2, 0, 1, 100, 0, 9}, 81000, 2);
        // As good as nothing: one gives up.
        hayIs(new int[] {5, 1, 0, 1, 50, 50, 0}, 0, 0);
        hayIs(new int[] {5, 1, 0, 1, 51, 50, 0}, 500, 1);
        hayIs(new int[] {999999990, 9, 0, 1, 999, 999, 99}, 207000, 2);
        hayIs(new int[] {999999990, 9, 8, 1, 999, 999, 99}, 999000, 1);
        hayIs(new int[] {999999990, 9, 9, 1, 999, 999, 99}, 0, 0);
        hayIs(new int[] {999999999, 9, 0, 3, 999, 999, 0}, 0, 0);
        hayIs(new int[] {999999999, 9, 0, 3, 999, 0, 0}, 999, 1);
        hayIs(new int[] {9, 2, 0, 1, 1, 0, 0}, 1000, 1);
        hayIs(new int[] {90, 2, 0, 1, 1, 0, 0}, 1000, 2);
        hayIs(new int[] {90, 2, 0, 1, 1, 0, 1}, 100, 1);
    }

    private static void hayRefused() {
        int[] good = {0, 3, 0, 1, 10, 10, 10};
        int[] least = {0, 1, 0, 1, 0, 0, 0};
        int[] most = {999, 9, 3, 3, 999, 999, 99};
        for (int i = 0; i < good.length; i++) {
            for (int v : new int[] {least[i] - 1, most[i] + 1, LOW, HIGH}) {
                int[] a = good.clone();
                a[i] = v;
                hayIs(a, -2, -2);
            }
        }
        int tens = 1;
        for (int n = 1; n <= 9; n++) {
            tens *= 10;
            hayIs(new int[] {tens, n, 0, 1, 0, 0, 0}, -2, -2);
            hayIs(new int[] {tens - 1, n, 0, 1, 0, 0, 0}, 0, 0);
            hayIs(new int[] {0, n, n + 1, 1, 0, 0, 0}, -2, -2);
            hayIs(new int[] {0, n, n, 1, 0, 0, 0}, 0, 0);
        }
        hayIs(new int[] {0, 0, 0, 1, 0, 0, 0}, -2, -2);
        hayIs(new int[] {0, 10, 0, 1, 0, 0, 0}, -2, -2);
    }

    private static void belief() {
        FallingGlass g = new FallingGlass();
        int[] told = {0, 500, 499, 501, 1000};
        int[] rains = {0, 0, 1, 0, 1};
        for (int i = 0; i < told.length; i++) {
            g.day(0, 0, 50, 0, 0, rains[i]);
            g.wire(i, told[i]);
        }
        g.day(0, 0, 50, 0, 0, 0);
        DUE.is("washed on 0 and 2", g.believed(7, 10, 10), 0);
        DUE.is("loss alone", g.believed(7, 0, 10), 0);
        DUE.is("gain alone: all but 4", g.believed(7, 10, 0), 30);
        DUE.is("nothing", g.believed(7, 0, 0), 0);
        DUE.is("washed on 0, 1, 2", g.believed(7, 501, 500), 501 + 501 - 500);
        DUE.is("washed on 0 alone", g.believed(7, 499, 501), 499);
        DUE.is("by yesterday: 1, 2, 4 are dry ahead", g.believed(0, 7, 100), 7 - 100 - 100);
        DUE.is("most", g.believed(7, 999, 999), 0);
        DUE.is("says nothing", g.believed(2, 9, 9), 0);
        FallingGlass full = new FallingGlass();
        for (int i = 0; i < 60; i++) {
            full.day(0, 0, 50, 0, 0, 1);
            full.wire(i, 0);
        }
        DUE.is("below 0", full.believed(7, 1, 999), -59940);
    }

    private static void beliefRefused() {
        FallingGlass g = new FallingGlass();
        for (int v : new int[] {-1, 9, LOW, HIGH}) {
            DUE.is("believed teller " + v, g.believed(v, -1, -1), GONE - 1);
        }
        for (int v : new int[] {-1, 1000, LOW, HIGH}) {
            DUE.is("believed gain " + v, g.believed(0, v, 0), GONE - 2);
            DUE.is("believed loss " + v, g.believed(0, 0, v), GONE - 2);
        }
        DUE.is("an empty book", g.believed(0, 999, 999), 0);
    }

    private static FallingGlass filled() {
        FallingGlass g = new FallingGlass();
        g.hour(10);
        g.stick(7);
        g.hour(35);
        g.day(3, 4, 55, 6, 2, 1);
        g.day(4, 5, 44, 1, 1, 0);
        g.wire(1, 321);
        Due.saying(g, 0, "p>50:3");
        Due.saying(g, 3, "*:1;*:2");
        g.glass(1, 2, 80, 3);
        g.set(0, 9);
        g.set(1, 8);
        g.set(2, 7);
        return g;
    }

    private static void isFilled(FallingGlass g, String when) {
        long[] told = {2, -1, 30, 7, 9, 8, 7, 1};
        for (int what = 0; what < told.length; what++) {
            if (what != 1) {
                DUE.is(when + " told " + what, g.told(what), told[what]);
            }
        }
        int[] cases = {1, 0, 0, 2};
        for (int i = 0; i < 4; i++) {
            DUE.is(when + " cases", g.told(10 + i), cases[i]);
        }
        long[] first = {55, 6, 2, 4, -6, -6, -6, 3, 1};
        long[] second = {44, 1, 1, 5, 1, 11, 0, 4, 0};
        for (int what = 0; what < 9; what++) {
            DUE.is(when + " look 0", g.look(0, what), first[what]);
            DUE.is(when + " look 1", g.look(1, what), second[what]);
        }
        DUE.is(when + " wire 0", g.odds(7, 0), -6);
        DUE.is(when + " wire 1", g.odds(7, 1), 321);
        DUE.is(when + " saying", g.odds(2, 0), 300);
        DUE.is(when + " saying", g.odds(2, 1), -6);
        DUE.is(when + " saying", g.odds(5, 1), 100);
        g.set(0, 4);
        DUE.is(when + " such", g.such(0, 0), 0);
        g.set(0, 0);
        DUE.is(when + " such", g.such(0, 0), 1);
        g.set(0, 9);
        FallingGlass fresh = new FallingGlass();
        fresh.glass(1, 2, 80, 3);
        fresh.set(2, 7);
        for (int x = 0; x < 9; x++) {
            DUE.is(when + " may", g.may(x, 0), fresh.may(x, 0));
        }
        DUE.is(when + " tap", g.tap(), 2);
        g.hour(28);
        DUE.is(when + " tap back", g.tap(), -2);
    }

    private static void spoil(FallingGlass g) {
        g.hour(99);
        g.stick(1);
        g.tear();
        g.tear();
        g.day(9, 9, 9, 4, 0, 0);
        g.day(9, 8, 8, 5, 3, 1);
        g.day(9, 8, 7, 5, 3, 1);
        g.wire(0, 5);
        g.wire(1, 6);
        Due.saying(g, 0, "*:9");
        Due.saying(g, 1, "*:8");
        g.saying(3);
        g.clear();
        g.glass(5, 5, 5, 5);
        g.glass(6, 5, 5, 5);
        g.set(0, 1);
        g.set(1, 1);
        g.set(2, 1);
    }

    private static void images() {
        FallingGlass g = filled();
        DUE.is("image 0", g.image(0), 1);
        DUE.is("restore 1 is not kept", g.restore(1), -3);
        spoil(g);
        DUE.is("image 1", g.image(1), 1);
        Due.say(g, "p<");
        DUE.is("restore 0", g.restore(0), 1);
        DUE.is("the pad stays", g.told(1), 2);
        DUE.is("its signs stay", g.fault(), 2);
        g.wipe();
        isFilledNeedles(g);
        DUE.is("restore 1", g.restore(1), 1);
        DUE.is("spoiled days", g.told(0), 3);
        DUE.is("spoiled needle", g.told(2), 65);
        DUE.is("spoiled saying", g.odds(2, 0), 900);
        DUE.is("spoiled wire", g.odds(7, 1), 6);
        DUE.is("spoiled looks", g.told(7), 2);
        DUE.is("restore 0 again", g.restore(0), 1);
        isFilledNeedles(g);
        spoil(g);
        DUE.is("kept again", g.image(0), 1);
        DUE.is("restored", g.restore(0), 1);
        DUE.is("the newer one", g.told(0), 3);
    }

    /** What is done after it was restored does not change the image. */
    private static void isFilledNeedles(FallingGlass g) {
        isFilled(g, "restored");
        spoil(g);
        DUE.is("restore once more", g.restore(0), 1);
        isFilled(g, "restored once more");
    }

    private static void imagesRefused() {
        FallingGlass g = new FallingGlass();
        for (int v : new int[] {-1, 2, LOW, HIGH}) {
            DUE.is("image " + v, g.image(v), -2);
            DUE.is("restore " + v, g.restore(v), -2);
        }
        g.hour(99);
        DUE.is("not kept", g.restore(0), -3);
        DUE.is("nothing changed", g.told(2), 74);
        g.image(1);
        DUE.is("restore of 0", g.restore(0), -3);
        g.hour(99);
        DUE.is("restore of 1", g.restore(1), 1);
        DUE.is("as it was", g.told(2), 74);
    }

    private static void told() {
        FallingGlass g = filled();
        Due.say(g, "abc");
        long[] told = {2, 3, 30, 7, 9, 8, 7, 1, -2, -2, 1, 0, 0, 2, -2};
        for (int what = 0; what < told.length; what++) {
            DUE.is("told " + what, g.told(what), told[what]);
        }
        for (int v : new int[] {-1, 15, LOW, HIGH}) {
            DUE.is("told " + v, g.told(v), -2);
        }
    }
}
