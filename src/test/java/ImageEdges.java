/** Promises 31 to 33, sentence by sentence: where images and what is told begin and end. */
final class ImageEdges {
    private static final int LEAST = Integer.MIN_VALUE;
    private static final int MOST = Integer.MAX_VALUE;
    private static Edges edges;

    private ImageEdges() {
    }

    static void all(Edges its) {
        edges = its;
        imageEnds();
        imageOfNew();
        imageOfTheMost();
        imageIsKeptOver();
        imageChangesNothing();
        padIsNotKept();
        twoImages();

        restoreEnds();
        notKept();
        restoreOutsideAheadOfState();
        needleMindAndStick();
        daysAndWires();
        sayings();
        looks();
        settings();
        restoredTwice();
        imageStaysAsItWas();

        toldEnds();
        toldLeast();
        toldMost();
        toldEachIsItsOwn();
    }

    // ---- promise 31

    private static void imageEnds() {
        edges.of(31, "an IMAGE (0, 1): 1. OUTSIDE");
        FallingGlass g = new FallingGlass();
        edges.is("image(0)", g.image(0), 1);
        edges.is("image(1)", g.image(1), 1);
        for (int n : new int[] {-1, 2, LEAST, MOST}) {
            edges.is("image(" + n + ")", g.image(n), -2);
        }
    }

    private static void imageOfNew() {
        edges.of(31, "All ... is kept: of a new object");
        FallingGlass g = new FallingGlass();
        g.image(1);
        g.hour(0);
        g.stick(9);
        g.day(0, 0, 0, 0, 0, 0);
        Due.saying(g, 0, "*:1");
        g.glass(0, 0, 0, 0);
        g.set(0, 0);
        g.set(1, 0);
        g.set(2, 0);
        edges.is("restore(1)", g.restore(1), 1);
        int[] told = {0, 0, 50, 2, 4, 5, 3, 0};
        for (int what = 0; what < told.length; what++) {
            edges.is("told(" + what + ")", g.told(what), told[what]);
        }
        edges.is("told(10)", g.told(10), 0);
        edges.is("tap()", g.tap(), 0);
        edges.is("may(-1, 0)", g.may(-1, 0), 729);
    }

    private static void imageOfTheMost() {
        edges.of(31, "All ... is kept: DAYS 0 to 59, sayings of 50 signs, 4 LOOKS");
        FallingGlass g = new FallingGlass();
        for (int i = 0; i < 60; i++) {
            g.day(i / 6, i % 12, i, i % 8, i % 4, i % 2);
        }
        g.wire(0, 0);
        g.wire(59, 1000);
        String text = "y>1:1;y>1:1;y>1:1;y>1:1;y>1:1;y>1:1;p<60&w=3&s=3:x";
        edges.is("saying(3)", Due.saying(g, 3, text), 7);
        for (int i = 0; i < 4; i++) {
            g.glass(4, 4, 90, 6);
        }
        g.image(0);
        for (int i = 0; i < 60; i++) {
            g.tear();
        }
        g.day(5, 5, 5, 5, 2, 1);
        g.saying(3);
        g.clear();
        g.restore(0);
        edges.is("told(0)", g.told(0), 60);
        edges.is("the 61st", g.day(0, 0, 0, 0, 0, 0), -4);
        int[][] due = {{0, 0, 0, 0, -6, -6, -6, 0, 0}, {59, 3, 3, 11, 0, 0, 1, 9, 1}};
        for (int what = 0; what < 9; what++) {
            edges.is("look(0, " + what + ")", g.look(0, what), due[0][what]);
            edges.is("look(59, " + what + ")", g.look(59, what), due[1][what]);
        }
        edges.is("wire of DAY 0", g.odds(7, 0), 0);
        edges.is("wire of DAY 59", g.odds(7, 59), 1000);
        edges.is("the last sign of 50", g.odds(5, 59), 1000);
        edges.is("the fifth look", g.glass(0, 0, 0, 0), -4);
        edges.is("may(4, 8)", g.may(4, 8), 3);
    }

    private static void imageIsKeptOver() {
        edges.of(31, "is kept in an IMAGE [the last one kept]");
        FallingGlass g = new FallingGlass();
        g.set(0, 10);
        edges.is("image(0)", g.image(0), 1);
        g.set(0, 20);
        edges.is("image(0) again", g.image(0), 1);
        g.set(0, 30);
        g.restore(0);
        edges.is("told(4)", g.told(4), 20);
    }

    private static void imageChangesNothing() {
        edges.of(31, "is kept [and stays]");
        FallingGlass g = new FallingGlass();
        g.hour(53);
        g.day(1, 2, 3, 4, 3, 1);
        g.say('p');
        g.image(0);
        edges.is("told(0)", g.told(0), 1);
        edges.is("told(1)", g.told(1), 1);
        edges.is("tap()", g.tap(), 1);
        edges.is("look(0, 1)", g.look(0, 1), 4);
    }

    private static void padIsNotKept() {
        edges.of(31, "All but the PAD");
        FallingGlass g = new FallingGlass();
        Due.say(g, "*:1");
        g.image(0);
        g.wipe();
        Due.say(g, "p<12");
        g.restore(0);
        edges.is("told(1)", g.told(1), 4);
        edges.is("fault()", g.fault(), 4);
        Due.say(g, ":3");
        edges.is("saying(0)", g.saying(0), 1);
        g.restore(0);
        edges.is("the PAD is empty", g.told(1), 0);
        edges.is("the SAYING is gone", g.told(10), 0);
    }

    private static void twoImages() {
        edges.of(31, "an IMAGE (0, 1) [each its own]");
        FallingGlass g = new FallingGlass();
        g.day(0, 0, 10, 0, 0, 0);
        g.image(0);
        g.day(0, 0, 20, 0, 0, 0);
        g.image(1);
        g.day(0, 0, 30, 0, 0, 0);
        g.restore(0);
        edges.is("of 0", g.told(0), 1);
        g.restore(1);
        edges.is("of 1", g.told(0), 2);
        edges.is("its press", g.look(1, 0), 20);
        g.restore(0);
        g.image(1);
        g.restore(1);
        edges.is("0 kept as 1", g.told(0), 1);
    }

    // ---- promise 32

    private static void restoreEnds() {
        edges.of(32, "It is as it was when it was kept (0, 1): 1. OUTSIDE");
        FallingGlass g = new FallingGlass();
        g.image(0);
        g.image(1);
        edges.is("restore(0)", g.restore(0), 1);
        edges.is("restore(1)", g.restore(1), 1);
        for (int n : new int[] {-1, 2, LEAST, MOST}) {
            edges.is("restore(" + n + ")", g.restore(n), -2);
        }
    }

    private static void notKept() {
        edges.of(32, "STATE: it was not");
        FallingGlass g = new FallingGlass();
        g.set(0, 9);
        edges.is("restore(0)", g.restore(0), -3);
        edges.is("restore(1)", g.restore(1), -3);
        edges.is("told(4)", g.told(4), 9);
        g.image(0);
        edges.is("restore(0)", g.restore(0), 1);
        edges.is("restore(1) still", g.restore(1), -3);
        FallingGlass h = new FallingGlass();
        h.image(1);
        edges.is("restore(0) still", h.restore(0), -3);
        edges.is("restore(1)", h.restore(1), 1);
    }

    private static void restoreOutsideAheadOfState() {
        edges.of(32, "the first of these that fits: OUTSIDE ahead of STATE");
        edges.is("restore(2)", new FallingGlass().restore(2), -2);
        edges.is("restore(-1)", new FallingGlass().restore(-1), -2);
        edges.is("restore(1)", new FallingGlass().restore(1), -3);
    }

    private static void needleMindAndStick() {
        edges.of(32, "It is as it was: the glass's mind, its needle, STICK");
        FallingGlass g = new FallingGlass();
        g.stick(9);
        g.hour(60);
        g.image(0);
        g.hour(99);
        g.stick(0);
        g.hour(0);
        g.restore(0);
        edges.is("needle", g.told(2), 50);
        edges.is("STICK", g.told(3), 9);
        edges.is("mind", g.tap(), 5);
    }

    private static void daysAndWires() {
        edges.of(32, "It is as it was: DAYS, THE WIRE");
        FallingGlass g = new FallingGlass();
        g.day(1, 2, 30, 4, 1, 1);
        g.day(2, 2, -1, 5, 3, 0);
        g.wire(1, 700);
        g.image(0);
        g.tear();
        g.tear();
        g.day(9, 9, 99, 6, 0, 0);
        g.day(8, 9, 99, 0, 0, 1);
        g.day(9, 9, 99, 7, 0, 1);
        g.wire(0, 100);
        g.wire(1, 200);
        g.restore(0);
        edges.is("told(0)", g.told(0), 2);
        int[][] due = {{30, 4, 1, 2, -6, -6, -6, 1, 1}, {-6, 5, 3, 2, 1, -6, -6, 2, 0}};
        for (int day = 0; day < 2; day++) {
            for (int what = 0; what < 9; what++) {
                edges.is("look(" + day + ", " + what + ")", g.look(day, what), due[day][what]);
            }
        }
        edges.is("THE WIRE of DAY 0", g.odds(7, 0), -6);
        edges.is("THE WIRE of DAY 1", g.odds(7, 1), 700);
        edges.is("by wind both are alike", g.such(0, 0), 1);
    }

    private static void sayings() {
        edges.of(32, "It is as it was: SAYINGS, none and some");
        FallingGlass g = new FallingGlass();
        g.day(0, 0, 50, 0, 0, 0);
        Due.saying(g, 0, "*:1;*:2;*:3");
        Due.saying(g, 3, "p=50:4");
        g.image(0);
        Due.saying(g, 0, "*:9");
        Due.saying(g, 1, "*:8");
        g.saying(3);
        g.restore(0);
        int[] cases = {3, 0, 0, 1};
        int[] odds = {100, -6, -6, 400};
        for (int saying = 0; saying < 4; saying++) {
            edges.is("CASES of " + saying, g.told(10 + saying), cases[saying]);
            edges.is("odds by " + saying, g.odds(2 + saying, 0), odds[saying]);
        }
    }

    private static void looks() {
        edges.of(32, "It is as it was: LOOKS, none and some");
        FallingGlass g = new FallingGlass();
        g.image(1);
        g.glass(4, 4, 8, 6);
        g.image(0);
        g.clear();
        g.glass(0, 0, 0, 0);
        g.glass(1, 1, 1, 1);
        g.restore(0);
        edges.is("told(7)", g.told(7), 1);
        edges.is("may(4, 5)", g.may(4, 5), 1);
        edges.is("may(-1, 0)", g.may(-1, 0), 1);
        g.restore(1);
        edges.is("told(7)", g.told(7), 0);
        edges.is("may(-1, 0)", g.may(-1, 0), 729);
    }

    private static void settings() {
        edges.of(32, "It is as it was: KEYS, WEIGHT, CARE");
        FallingGlass g = new FallingGlass();
        int[] least = {0, 0, 0};
        int[] most = {63, 10, 20};
        for (int which = 0; which < 3; which++) {
            g.set(which, least[which]);
        }
        g.image(0);
        for (int which = 0; which < 3; which++) {
            g.set(which, most[which]);
        }
        g.image(1);
        g.restore(0);
        for (int which = 0; which < 3; which++) {
            edges.is("least", g.told(4 + which), least[which]);
        }
        g.restore(1);
        for (int which = 0; which < 3; which++) {
            edges.is("most", g.told(4 + which), most[which]);
        }
    }

    private static void restoredTwice() {
        edges.of(32, "as it was when it was kept [and so each time]");
        FallingGlass g = new FallingGlass();
        g.day(0, 0, 10, 0, 0, 0);
        Due.saying(g, 0, "*:1");
        g.image(0);
        for (int time = 0; time < 3; time++) {
            g.tear();
            g.day(3, 3, 33, 3, 3, 1);
            g.day(3, 3, 34, 3, 3, 1);
            g.wire(0, 55);
            g.hour(99);
            Due.saying(g, 0, "*:7;*:7");
            g.glass(1, 1, 1, 1);
            g.set(1, 9);
            edges.is("restore(0)", g.restore(0), 1);
            edges.is("told(0)", g.told(0), 1);
            edges.is("look(0, 0)", g.look(0, 0), 10);
            edges.is("odds(7, 0)", g.odds(7, 0), -6);
            edges.is("told(2)", g.told(2), 50);
            edges.is("odds(2, 0)", g.odds(2, 0), 100);
            edges.is("told(7)", g.told(7), 0);
            edges.is("told(5)", g.told(5), 5);
        }
    }

    private static void imageStaysAsItWas() {
        edges.of(32, "when it was kept [not when another one was kept or restored]");
        FallingGlass g = new FallingGlass();
        g.set(2, 1);
        g.image(0);
        g.set(2, 2);
        g.image(1);
        g.restore(0);
        g.set(2, 9);
        g.restore(1);
        edges.is("of 1", g.told(6), 2);
        g.set(2, 9);
        g.restore(0);
        edges.is("of 0", g.told(6), 1);
    }

    // ---- promise 33

    private static void toldEnds() {
        edges.of(33, "0 DAYS ... 7 LOOKS, 10 to 13 CASES of SAYINGS. OUTSIDE");
        FallingGlass g = new FallingGlass();
        for (int what = 0; what <= 13; what++) {
            boolean outside = what == 8 || what == 9;
            edges.is("told(" + what + ") is refused", g.told(what) == -2 ? 1 : 0, outside ? 1 : 0);
        }
        for (int what : new int[] {-1, 8, 9, 14, LEAST, MOST}) {
            edges.is("told(" + what + ")", g.told(what), -2);
        }
    }

    private static void toldLeast() {
        edges.of(33, "the least that is told of each");
        FallingGlass g = new FallingGlass();
        for (int i = 0; i < 6; i++) {
            g.hour(0);
        }
        g.tap();
        g.stick(0);
        for (int which = 0; which < 3; which++) {
            g.set(which, 0);
        }
        for (int what = 0; what <= 13; what++) {
            if (what < 8 || what > 9) {
                edges.is("told(" + what + ")", g.told(what), 0);
            }
        }
    }

    private static void toldMost() {
        edges.of(33, "the most that is told of each");
        FallingGlass g = new FallingGlass();
        for (int i = 0; i < 60; i++) {
            g.day(0, 0, 0, 0, 0, 0);
        }
        for (int saying = 0; saying < 4; saying++) {
            Due.saying(g, saying, "*:1;*:1;*:1;*:1;*:1;*:1;*:1;*:1;*:1;*:1;*:1;*:1");
        }
        for (int i = 0; i < 50; i++) {
            g.say('p');
        }
        for (int i = 0; i < 7; i++) {
            g.hour(99);
        }
        g.tap();
        g.stick(9);
        int[] most = {63, 10, 20};
        for (int which = 0; which < 3; which++) {
            g.set(which, most[which]);
        }
        for (int i = 0; i < 4; i++) {
            g.glass(0, 0, 0, 0);
        }
        int[] due = {60, 50, 98, 9, 63, 10, 20, 4, -2, -2, 12, 12, 12, 12};
        for (int what = 0; what < due.length; what++) {
            edges.is("told(" + what + ")", g.told(what), due[what]);
        }
    }

    private static void toldEachIsItsOwn() {
        edges.of(33, "0 DAYS, 1 signs, 2 the needle, 3 STICK, 4 KEYS, 5 WEIGHT, 6 CARE, 7 LOOKS");
        FallingGlass g = new FallingGlass();
        g.stick(1);
        g.hour(90);
        g.hour(71);
        g.day(0, 0, 0, 0, 0, 0);
        g.day(0, 0, 0, 0, 0, 0);
        Due.saying(g, 1, "*:1");
        Due.saying(g, 2, "*:1;*:2");
        Due.saying(g, 3, "*:1;*:2;*:3");
        Due.say(g, "abcde");
        g.set(0, 40);
        g.set(1, 6);
        g.set(2, 11);
        g.glass(0, 0, 0, 0);
        int[] due = {2, 5, 70, 1, 40, 6, 11, 1, -2, -2, 0, 1, 2, 3};
        for (int what = 0; what < due.length; what++) {
            edges.is("told(" + what + ")", g.told(what), due[what]);
        }
    }
}
