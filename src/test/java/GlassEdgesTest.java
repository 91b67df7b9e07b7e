/** Promises 1 to 7, sentence by sentence: where the glass and the book begin and end. */
public final class GlassEdgesTest {
    private static final int LEAST = Integer.MIN_VALUE;
    private static final int MOST = Integer.MAX_VALUE;
    private static final Edges EDGES = new Edges("GlassEdgesTest");

    public static void main(String[] args) {
        newBook();
        newSayings();
        newLooks();
        newPad();
        newNeedleAndMind();
        newStick();
        newKeys();
        newWeight();
        newCare();
        newImages();
        objectsApart();
        fiveHundredAndTwelveCalls();

        pressOfAnHour();
        mindIsCut();
        mindGoesFromItself();
        needleStaysWithinStick();
        needleByStickNought();
        needleByStickNine();
        hoursAtTheEnds();

        tappedInAnyCase();
        tappedUpAndDown();
        tappedWhereItIs();

        stickEnds();
        stickTellsWhichItWas();
        stickAloneMovesNothing();

        daysFromNoughtToFiftyNine();
        roomAfterTearing();
        yearEnds();
        monthEnds();
        pressEnds();
        pressNotLookedAt();
        windEnds();
        skyEnds();
        rainEnds();
        dayOutsideAheadOfFull();

        lastDayGoes();
        howManyAreLeft();
        nothingToTear();
        tornDayIsForgotten();
        tornDayCountsNoMore();

        lookEnds();
        lookOfUnknownDays();
        lookUnknownAheadOfOutside();
        lookOfFirstDay();
        lookOfDayWithoutPress();
        lookBehindDayWithoutPress();
        fallAndRise();
        greatestFallAndRise();
        pressNoughtIsPress();
        rainOfTheDayAhead();
        EDGES.end(1, 7);
    }

    /** A book of so many days, of one year and month, with presses as told. */
    private static FallingGlass presses(int... presses) {
        FallingGlass g = new FallingGlass();
        for (int press : presses) {
            g.day(0, 0, press, 0, 0, 0);
        }
        return g;
    }

    private static FallingGlass full() {
        FallingGlass g = new FallingGlass();
        for (int i = 0; i < 60; i++) {
            g.day(0, 0, i, 0, 0, 0);
        }
        return g;
    }

    // ---- promise 1

    private static void newBook() {
        EDGES.of(1, "An empty BOOK");
        FallingGlass g = new FallingGlass();
        EDGES.is("told(0)", g.told(0), 0);
        EDGES.is("look(0, 7)", g.look(0, 7), -1);
        EDGES.is("tear()", g.tear(), -5);
        EDGES.is("day", g.day(0, 0, 0, 0, 0, 0), 0);
    }

    private static void newSayings() {
        EDGES.of(1, "no SAYINGS");
        FallingGlass g = presses(50);
        for (int saying = 0; saying < 4; saying++) {
            EDGES.is("told of saying " + saying, g.told(10 + saying), 0);
            EDGES.is("odds by saying " + saying, g.odds(2 + saying, 0), -6);
        }
    }

    private static void newLooks() {
        EDGES.of(1, "no LOOKS");
        FallingGlass g = new FallingGlass();
        EDGES.is("told(7)", g.told(7), 0);
        EDGES.is("may(-1, 0)", g.may(-1, 0), 81 * 9);
        EDGES.is("clear()", g.clear(), 0);
    }

    private static void newPad() {
        EDGES.of(1, "the PAD is empty");
        FallingGlass g = new FallingGlass();
        EDGES.is("told(1)", g.told(1), 0);
        EDGES.is("wipe()", g.wipe(), 0);
        EDGES.is("say('*')", g.say('*'), 1);
    }

    private static void newNeedleAndMind() {
        EDGES.of(1, "Both are 50 at first.");
        EDGES.is("needle", new FallingGlass().told(2), 50);
        EDGES.is("tap()", new FallingGlass().tap(), 0);
        EDGES.is("hour(50)", new FallingGlass().hour(50), 50);
        EDGES.is("hour(56), half of 106", new FallingGlass().hour(56), 53);
    }

    private static void newStick() {
        EDGES.of(1, "STICK (0 to 9; 2 at first)");
        EDGES.is("told(3)", new FallingGlass().told(3), 2);
        EDGES.is("stick(5)", new FallingGlass().stick(5), 2);
        EDGES.is("mind 52, 2 away", new FallingGlass().hour(54), 50);
        EDGES.is("mind 53, 3 away", new FallingGlass().hour(56), 53);
    }

    private static void newKeys() {
        EDGES.of(1, "KEYS (bits 0 to 63; 4 at first)");
        FallingGlass g = new FallingGlass();
        EDGES.is("told(4)", g.told(4), 4);
        g.day(0, 0, 0, 0, 0, 0);
        g.day(1, 6, 99, 0, 3, 1);
        g.day(1, 0, 0, 2, 0, 1);
        EDGES.is("such by wind alone", g.such(0, 0), 1);
    }

    private static void newWeight() {
        EDGES.of(1, "WEIGHT (0 to 10; 5 at first)");
        FallingGlass g = new FallingGlass();
        EDGES.is("told(5)", g.told(5), 5);
        g.day(0, 0, 0, 0, 0, 0);
        g.day(1, 0, 0, 0, 0, 1);
        g.wire(0, 400);
        EDGES.is("1000 and 400 joined", g.odds(8, 0), 700);
    }

    private static void newCare() {
        EDGES.of(1, "CARE (0 to 20; 3 at first)");
        FallingGlass g = new FallingGlass();
        EDGES.is("told(6)", g.told(6), 3);
        // DEEP 9 at FAR 1 gives 90 - 82 = 8.
        g.glass(4, 4, 5, 6);
        EDGES.is("3 away", g.may(4, 5), 1);
        g.clear();
        g.glass(4, 4, 4, 6);
        EDGES.is("4 away", g.may(4, 5), 0);
    }

    private static void newImages() {
        EDGES.of(1, "STATE: it was not [kept], of a new object");
        EDGES.is("restore(0)", new FallingGlass().restore(0), -3);
        EDGES.is("restore(1)", new FallingGlass().restore(1), -3);
    }

    private static void objectsApart() {
        EDGES.of(1, "A new object [has nothing of another one]");
        FallingGlass other = presses(1, 2, 3);
        other.hour(99);
        other.say('*');
        other.glass(0, 0, 0, 0);
        other.set(0, 63);
        other.image(0);
        FallingGlass g = new FallingGlass();
        int[] told = {0, 0, 50, 2, 4, 5, 3, 0};
        for (int what = 0; what < told.length; what++) {
            EDGES.is("told(" + what + ")", g.told(what), told[what]);
        }
        EDGES.is("restore(0)", g.restore(0), -3);
    }

    private static void fiveHundredAndTwelveCalls() {
        EDGES.of(1, "An object is used for at most 512 calls after it has been made");
        FallingGlass g = full();
        for (int call = 61; call <= 510; call++) {
            EDGES.is("call " + call, g.look(call % 60, 0), call % 60);
        }
        EDGES.is("call 511", g.hour(53), 50);
        EDGES.is("call 512", g.tap(), 1);
    }

    // ---- promise 2

    private static void pressOfAnHour() {
        EDGES.of(2, "in each HOUR the air has a PRESS (0 to 99)");
        EDGES.is("hour(0)", new FallingGlass().hour(0), 25);
        EDGES.is("hour(99)", new FallingGlass().hour(99), 74);
        for (int press : new int[] {-1, 100, LEAST, MOST}) {
            EDGES.is("hour(" + press + ")", new FallingGlass().hour(press), -2);
        }
    }

    private static void mindIsCut() {
        EDGES.of(2, "its PRESS and that together by 2, cut");
        FallingGlass g = new FallingGlass();
        g.stick(0);
        EDGES.is("101 by 2", g.hour(51), 50);
        EDGES.is("99 by 2", g.hour(49), 49);
        EDGES.is("99 by 2 the other way", g.hour(50), 49);
        EDGES.is("100 by 2", g.hour(51), 50);
    }

    private static void mindGoesFromItself() {
        EDGES.of(2, "the GLASS's mind goes half of the way there");
        FallingGlass g = new FallingGlass();
        EDGES.is("mind 51, needle 50", g.hour(53), 50);
        EDGES.is("mind 53: from 51, not from 50", g.hour(55), 53);
    }

    private static void needleStaysWithinStick() {
        EDGES.of(2, "its needle goes to its mind, if it is farther from it than STICK");
        EDGES.is("2 up stays", new FallingGlass().hour(54), 50);
        EDGES.is("3 up goes", new FallingGlass().hour(56), 53);
        EDGES.is("2 down stays", new FallingGlass().hour(46), 50);
        EDGES.is("3 down goes", new FallingGlass().hour(44), 47);
    }

    private static FallingGlass sticking(int stick) {
        FallingGlass g = new FallingGlass();
        g.stick(stick);
        return g;
    }

    private static void needleByStickNought() {
        EDGES.of(2, "farther from it than STICK, the least of which is 0");
        EDGES.is("0 away", sticking(0).hour(50), 50);
        EDGES.is("1 up", sticking(0).hour(52), 51);
        EDGES.is("1 down", sticking(0).hour(48), 49);
    }

    private static void needleByStickNine() {
        EDGES.of(2, "farther from it than STICK, the most of which is 9");
        EDGES.is("9 up", sticking(9).hour(68), 50);
        EDGES.is("10 up", sticking(9).hour(70), 60);
        EDGES.is("9 down", sticking(9).hour(32), 50);
        EDGES.is("10 down", sticking(9).hour(30), 40);
    }

    private static void hoursAtTheEnds() {
        EDGES.of(2, "half of the way there, cut, where the PRESS ends");
        FallingGlass g = sticking(0);
        for (int needle : new int[] {74, 86, 92, 95, 97, 98, 98, 98}) {
            EDGES.is("hour(99)", g.hour(99), needle);
        }
        for (int needle : new int[] {49, 24, 12, 6, 3, 1, 0, 0}) {
            EDGES.is("hour(0)", g.hour(0), needle);
        }
    }

    // ---- promise 3

    private static void tappedInAnyCase() {
        EDGES.of(3, "TAPPED it goes there in any case");
        FallingGlass g = sticking(9);
        g.hour(52);
        EDGES.is("needle ahead", g.told(2), 50);
        EDGES.is("1 away", g.tap(), 1);
        EDGES.is("needle", g.told(2), 51);
        g.hour(69);
        EDGES.is("9 away", g.tap(), 9);
        EDGES.is("needle", g.told(2), 60);
    }

    private static void tappedUpAndDown() {
        EDGES.of(3, "by how much the needle goes up (down: below 0)");
        FallingGlass g = sticking(9);
        g.hour(68);
        EDGES.is("up", g.tap(), 9);
        g.hour(41);
        EDGES.is("down", g.tap(), -9);
        g.hour(48);
        EDGES.is("one down", g.tap(), -1);
        EDGES.is("needle", g.told(2), 49);
    }

    private static void tappedWhereItIs() {
        EDGES.of(3, "by how much: 0, where the needle is at the mind");
        FallingGlass g = new FallingGlass();
        EDGES.is("new", g.tap(), 0);
        g.hour(0);
        EDGES.is("gone by itself", g.tap(), 0);
        g.hour(27);
        EDGES.is("one up", g.tap(), 1);
        EDGES.is("again", g.tap(), 0);
    }

    // ---- promise 4

    private static void stickEnds() {
        EDGES.of(4, "STICK (0 to 9)");
        for (int v : new int[] {0, 9}) {
            FallingGlass g = new FallingGlass();
            EDGES.is("stick(" + v + ")", g.stick(v), 2);
            EDGES.is("told(3)", g.told(3), v);
        }
        for (int v : new int[] {-1, 10, LEAST, MOST}) {
            FallingGlass g = new FallingGlass();
            EDGES.is("stick(" + v + ")", g.stick(v), -2);
            EDGES.is("told(3)", g.told(3), 2);
        }
    }

    private static void stickTellsWhichItWas() {
        EDGES.of(4, "STICK: which it was");
        FallingGlass g = new FallingGlass();
        EDGES.is("stick(0)", g.stick(0), 2);
        EDGES.is("stick(9)", g.stick(9), 0);
        EDGES.is("stick(9) again", g.stick(9), 9);
        EDGES.is("stick(2)", g.stick(2), 9);
    }

    private static void stickAloneMovesNothing() {
        EDGES.of(4, "in each HOUR [the needle goes; not by a new STICK]");
        FallingGlass g = sticking(9);
        g.hour(60);
        EDGES.is("stick(0)", g.stick(0), 9);
        EDGES.is("needle", g.told(2), 50);
        EDGES.is("in the next HOUR", g.hour(55), 55);
    }

    // ---- promise 5

    private static void daysFromNoughtToFiftyNine() {
        EDGES.of(5, "DAYS 0 to 59; FULL");
        FallingGlass g = new FallingGlass();
        for (int i = 0; i < 60; i++) {
            EDGES.is("day", g.day(0, 0, i, 0, 0, 0), i);
        }
        EDGES.is("the 61st", g.day(0, 0, 60, 0, 0, 0), -4);
        EDGES.is("told(0)", g.told(0), 60);
        EDGES.is("press of DAY 0", g.look(0, 0), 0);
        EDGES.is("press of DAY 59", g.look(59, 0), 59);
    }

    private static void roomAfterTearing() {
        EDGES.of(5, "A DAY: its number, after one of 60 is torn");
        FallingGlass g = full();
        g.tear();
        EDGES.is("the 60th", g.day(0, 0, 88, 0, 0, 0), 59);
        EDGES.is("its press", g.look(59, 0), 88);
        EDGES.is("the 61st", g.day(0, 0, 0, 0, 0, 0), -4);
    }

    /** One number of a day at its least, its most and beside both, and by which look it is told. */
    private static void dayEnds(int place, int least, int most, int what) {
        for (int v : new int[] {least, most}) {
            int[] a = {5, 5, 5, 5, 2, 0};
            a[place] = v;
            FallingGlass g = new FallingGlass();
            EDGES.is("day with " + v, g.day(a[0], a[1], a[2], a[3], a[4], a[5]), 0);
            EDGES.is("look at " + v, g.look(0, what), v);
        }
        for (int v : new int[] {least - 1, most + 1, LEAST, MOST}) {
            int[] a = {5, 5, 5, 5, 2, 0};
            a[place] = v;
            FallingGlass g = new FallingGlass();
            EDGES.is("day with " + v, g.day(a[0], a[1], a[2], a[3], a[4], a[5]), -2);
            EDGES.is("days", g.told(0), 0);
        }
    }

    private static void yearEnds() {
        EDGES.of(5, "YEAR (0 to 9)");
        dayEnds(0, 0, 9, 7);
    }

    private static void monthEnds() {
        EDGES.of(5, "MONTH (0 to 11)");
        dayEnds(1, 0, 11, 3);
    }

    private static void pressEnds() {
        EDGES.of(5, "PRESS (0 to 99)");
        for (int press : new int[] {0, 99}) {
            FallingGlass g = presses(press);
            EDGES.is("look at " + press, g.look(0, 0), press);
        }
        for (int press : new int[] {100, MOST}) {
            EDGES.is("day with " + press, new FallingGlass().day(0, 0, press, 0, 0, 0), -2);
        }
    }

    private static void pressNotLookedAt() {
        EDGES.of(5, "-1: not looked at");
        FallingGlass g = new FallingGlass();
        EDGES.is("day with -1", g.day(0, 0, -1, 0, 0, 0), 0);
        EDGES.is("look", g.look(0, 0), -6);
        EDGES.is("day with -2", g.day(0, 0, -2, 0, 0, 0), -2);
        EDGES.is("day with the least", g.day(0, 0, LEAST, 0, 0, 0), -2);
        EDGES.is("days", g.told(0), 1);
    }

    private static void windEnds() {
        EDGES.of(5, "WIND (0 to 7: from N, NE, E ... NW)");
        dayEnds(3, 0, 7, 1);
    }

    private static void skyEnds() {
        EDGES.of(5, "SKY (0 clear, 1 some, 2 grey, 3 red at dusk)");
        dayEnds(4, 0, 3, 2);
    }

    private static void rainEnds() {
        EDGES.of(5, "RAIN (1, 0: whether it rained on the DAY)");
        dayEnds(5, 0, 1, 8);
    }

    private static void dayOutsideAheadOfFull() {
        EDGES.of(5, "the first of these that fits: OUTSIDE ahead of FULL");
        FallingGlass g = full();
        EDGES.is("day", g.day(0, 0, 0, 0, 0, 2), -2);
        EDGES.is("day", g.day(10, 0, 0, 0, 0, 0), -2);
        EDGES.is("day", g.day(0, 0, 0, 0, 0, 0), -4);
    }

    // ---- promise 6

    private static void lastDayGoes() {
        EDGES.of(6, "The last DAY goes");
        FallingGlass g = presses(10, 20, 30);
        g.tear();
        EDGES.is("DAY 0 stays", g.look(0, 0), 10);
        EDGES.is("DAY 1 stays", g.look(1, 0), 20);
        EDGES.is("DAY 2 is gone", g.look(2, 0), -1);
    }

    private static void howManyAreLeft() {
        EDGES.of(6, "how many are left");
        FallingGlass g = full();
        for (int left = 59; left >= 0; left--) {
            EDGES.is("tear()", g.tear(), left);
        }
        EDGES.is("told(0)", g.told(0), 0);
    }

    private static void nothingToTear() {
        EDGES.of(6, "NO: there is none");
        EDGES.is("new", new FallingGlass().tear(), -5);
        FallingGlass g = presses(10);
        EDGES.is("the only one", g.tear(), 0);
        EDGES.is("none any more", g.tear(), -5);
        EDGES.is("told(0)", g.told(0), 0);
        EDGES.is("the next one", g.day(0, 0, 0, 0, 0, 0), 0);
    }

    private static void tornDayIsForgotten() {
        EDGES.of(6, "goes: what is written in its place has nothing of it");
        FallingGlass g = presses(50, 40);
        g.day(1, 1, 30, 1, 1, 1);
        g.wire(2, 900);
        g.tear();
        EDGES.is("month of DAY 0 has no other year", g.odds(1, 0), -6);
        g.day(2, 2, 45, 2, 2, 0);
        int[] looks = {45, 2, 2, 2, 0, 0, 5, 2, 0};
        for (int what = 0; what < looks.length; what++) {
            EDGES.is("look(2, " + what + ")", g.look(2, what), looks[what]);
        }
        EDGES.is("THE WIRE has told nothing of it", g.odds(7, 2), -6);
    }

    private static void tornDayCountsNoMore() {
        EDGES.of(6, "goes: nothing that is counted counts it any more");
        FallingGlass g = new FallingGlass();
        g.day(1, 0, 20, 0, 0, 1);
        g.day(1, 0, 60, 2, 0, 0);
        g.day(0, 0, 70, 0, 0, 0);
        g.wire(0, 500);
        Due.saying(g, 0, "w=0:9;*:1");
        EDGES.is("THE BOOK of DAY 0 with it", g.odds(6, 0), 0);
        g.tear();
        EDGES.is("MONTH of DAY 0", g.odds(1, 0), -6);
        EDGES.is("THE BOOK of DAY 0", g.odds(6, 0), -6);
        EDGES.is("SUCH to DAY 0", g.such(0, 0), 0);
        EDGES.is("SCORE of YESTERDAY", g.score(0, 0), 1000000);
        EDGES.is("MEANS of YESTERDAY", g.means(0, 0, 1000, 0), 1);
        EDGES.is("BEST KEYS", g.best(0), -6);
        EDGES.is("BEST WEIGHT", g.best(1), -6);
        EDGES.is("TRIED", g.tried(0, 0), 2);
        EDGES.is("LOT", g.lot(0, 1), 2);
        EDGES.is("CHANGED", g.changed(1, 1), 1);
        EDGES.is("RIGHT", g.right(0), 2);
        EDGES.is("ENGRAVED", g.engraved(1), 2);
        EDGES.is("BELIEVED of YESTERDAY", g.believed(0, 5, 5), 0);
    }

    // ---- promise 7

    private static void lookEnds() {
        EDGES.of(7, "LOOKS of a DAY: 0 p, ... 8 RAIN");
        FallingGlass g = new FallingGlass();
        g.day(9, 11, 77, 7, 3, 1);
        EDGES.is("look(0, 0)", g.look(0, 0), 77);
        EDGES.is("look(0, 8)", g.look(0, 8), 1);
        for (int what : new int[] {-1, 9, LEAST, MOST}) {
            EDGES.is("look(0, " + what + ")", g.look(0, what), -2);
        }
    }

    private static void lookOfUnknownDays() {
        EDGES.of(7, "UNKNOWN (there is no such DAY)");
        EDGES.is("no DAYS", new FallingGlass().look(0, 7), -1);
        FallingGlass g = presses(10, 20);
        EDGES.is("DAY 0", g.look(0, 0), 10);
        EDGES.is("the last DAY", g.look(1, 0), 20);
        for (int day : new int[] {-1, 2, LEAST, MOST}) {
            EDGES.is("look(" + day + ", 0)", g.look(day, 0), -1);
        }
        EDGES.is("the last DAY of 60", full().look(59, 0), 59);
        EDGES.is("the one behind it", full().look(60, 0), -1);
    }

    private static void lookUnknownAheadOfOutside() {
        EDGES.of(7, "the first of these that fits: UNKNOWN ahead of OUTSIDE");
        EDGES.is("look(1, 9)", presses(10).look(1, 9), -1);
        EDGES.is("look(-1, -1)", presses(10).look(-1, -1), -1);
    }

    private static void lookOfFirstDay() {
        EDGES.of(7, "DAY 0 has no y, d, u");
        FallingGlass g = presses(50, 50);
        for (int what = 4; what <= 6; what++) {
            EDGES.is("look(0, " + what + ")", g.look(0, what), -6);
            EDGES.is("look(1, " + what + ")", g.look(1, what), 0);
        }
        EDGES.is("it has p", g.look(0, 0), 50);
    }

    private static void lookOfDayWithoutPress() {
        EDGES.of(7, "a DAY without PRESS ... no p (no d, u)");
        FallingGlass g = presses(50, -1);
        EDGES.is("p", g.look(1, 0), -6);
        EDGES.is("d", g.look(1, 5), -6);
        EDGES.is("u", g.look(1, 6), -6);
        EDGES.is("y", g.look(1, 4), 0);
        EDGES.is("w", g.look(1, 1), 0);
    }

    private static void lookBehindDayWithoutPress() {
        EDGES.of(7, "(or behind one without) ... (no d, u)");
        FallingGlass g = presses(-1, 50, 40, -1, -1);
        EDGES.is("p behind it", g.look(1, 0), 50);
        EDGES.is("d behind it", g.look(1, 5), -6);
        EDGES.is("u behind it", g.look(1, 6), -6);
        EDGES.is("y behind it", g.look(1, 4), 0);
        EDGES.is("d two behind it", g.look(2, 5), 10);
        EDGES.is("u two behind it", g.look(2, 6), 0);
        EDGES.is("d of one without behind one without", g.look(4, 5), -6);
        EDGES.is("u of one without behind one without", g.look(4, 6), -6);
    }

    private static void fallAndRise() {
        EDGES.of(7, "by how much PRESS is less, more than that of the DAY ahead (0, if it is not)");
        FallingGlass g = presses(50, 49, 49, 50);
        EDGES.is("d of less", g.look(1, 5), 1);
        EDGES.is("u of less", g.look(1, 6), 0);
        EDGES.is("d of alike", g.look(2, 5), 0);
        EDGES.is("u of alike", g.look(2, 6), 0);
        EDGES.is("d of more", g.look(3, 5), 0);
        EDGES.is("u of more", g.look(3, 6), 1);
    }

    private static void greatestFallAndRise() {
        EDGES.of(7, "by how much PRESS is less, more: from end to end");
        FallingGlass g = presses(99, 0, 99);
        EDGES.is("d", g.look(1, 5), 99);
        EDGES.is("u", g.look(1, 6), 0);
        EDGES.is("d", g.look(2, 5), 0);
        EDGES.is("u", g.look(2, 6), 99);
    }

    private static void pressNoughtIsPress() {
        EDGES.of(7, "NONE: it has not [a PRESS of 0 it has]");
        FallingGlass g = presses(0, 0);
        EDGES.is("p", g.look(0, 0), 0);
        EDGES.is("d", g.look(1, 5), 0);
        EDGES.is("u", g.look(1, 6), 0);
        EDGES.is("NONE", FallingGlass.NONE, -6);
    }

    private static void rainOfTheDayAhead() {
        EDGES.of(7, "y RAIN of the DAY ahead");
        FallingGlass g = new FallingGlass();
        g.day(0, 0, 0, 0, 0, 1);
        g.day(0, 0, 0, 0, 0, 0);
        g.day(5, 5, 0, 0, 0, 1);
        EDGES.is("y of DAY 1", g.look(1, 4), 1);
        EDGES.is("y of the last DAY, of another YEAR", g.look(2, 4), 0);
    }
}
