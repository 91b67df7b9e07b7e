/** Promises 8 to 15, sentence by sentence: where sayings and tellers begin and end. */
public final class SayingEdgesTest {
    private static final int LEAST = Integer.MIN_VALUE;
    private static final int MOST = Integer.MAX_VALUE;
    private static final Edges EDGES = new Edges("SayingEdgesTest");
    // 11 times 4 signs and 6: 50 in all, and nothing more must come.
    private static final String FIFTY = "*:1;*:1;*:1;*:1;*:1;*:1;*:1;*:1;*:1;*:1;*:1;p<10:1";

    public static void main(String[] args) {
        codesOfSigns();
        fiftySigns();
        sayOutsideAheadOfFull();
        wipeTells();
        roomAfterWiping();

        noFault();
        placeFromNought();
        firstOfFaults();
        moreMustCome();
        faultOfFiftySigns();
        signsStay();
        casesWithSemicolons();
        firstSignOfCase();
        testsWithAnd();
        relations();
        oneOrTwoDigits();
        starAlone();
        thenColon();
        tenthsOrX();

        sayingEnds();
        sayingsAreFour();
        signsAreGone();
        theseSignsAlone();
        noSignsNoSaying();
        sayingWithFault();
        sayingUnknownAheadOfNo();
        casesCounted();
        longestSaying();

        TellerEdges.all(EDGES);
        SuchEdges.all(EDGES);
        EDGES.end(8, 15);
    }

    private static FallingGlass padded(String signs) {
        FallingGlass g = new FallingGlass();
        Due.say(g, signs);
        return g;
    }

    private static void faultIs(String signs, int want) {
        EDGES.is("fault of " + signs, padded(signs).fault(), want);
    }

    /** Behind some signs, all 94 signs are tried: these alone can stand there. */
    private static void canStand(String behind, String these) {
        for (char sign = 33; sign <= 126; sign++) {
            int fault = padded(behind + sign).fault();
            boolean stands = fault != behind.length();
            EDGES.is("behind " + behind + " stands " + sign, stands ? 1 : 0, these.indexOf(sign) >= 0 ? 1 : 0);
        }
    }

    // ---- promise 8

    private static void codesOfSigns() {
        EDGES.of(8, "codes 33 to 126");
        FallingGlass g = new FallingGlass();
        EDGES.is("say(33)", g.say(33), 1);
        EDGES.is("say(126)", g.say(126), 2);
        for (int sign : new int[] {32, 127, 0, -1, LEAST, MOST, 256 + 'p', 65536 + 'p'}) {
            EDGES.is("say(" + sign + ")", g.say(sign), -2);
        }
        EDGES.is("told(1)", g.told(1), 2);
    }

    private static void fiftySigns() {
        EDGES.of(8, "texts of up to 50 signs; FULL");
        FallingGlass g = new FallingGlass();
        for (int n = 1; n <= 50; n++) {
            EDGES.is("say", g.say('p'), n);
        }
        EDGES.is("the 51st", g.say('p'), -4);
        EDGES.is("told(1)", g.told(1), 50);
    }

    private static void sayOutsideAheadOfFull() {
        EDGES.of(8, "the first of these that fits: OUTSIDE ahead of FULL");
        FallingGlass g = padded(FIFTY);
        EDGES.is("say(32)", g.say(32), -2);
        EDGES.is("say(127)", g.say(127), -2);
        EDGES.is("say(33)", g.say(33), -4);
    }

    // ---- promise 9

    private static void wipeTells() {
        EDGES.of(9, "how many there were");
        EDGES.is("none", new FallingGlass().wipe(), 0);
        EDGES.is("one", padded("!").wipe(), 1);
        FallingGlass g = padded(FIFTY);
        EDGES.is("the most", g.wipe(), 50);
        EDGES.is("again", g.wipe(), 0);
    }

    private static void roomAfterWiping() {
        EDGES.of(9, "Signs go");
        FallingGlass g = padded(FIFTY);
        g.wipe();
        EDGES.is("told(1)", g.told(1), 0);
        EDGES.is("fault()", g.fault(), 0);
        for (int n = 1; n <= 50; n++) {
            EDGES.is("say", g.say(FIFTY.charAt(n - 1)), n);
        }
        EDGES.is("fault()", g.fault(), -6);
    }

    // ---- promise 10

    private static void noFault() {
        EDGES.of(10, "THE FAULT; NONE");
        faultIs("*:0", -6);
        faultIs("p<1:x", -6);
        faultIs(FIFTY, -6);
    }

    private static void placeFromNought() {
        EDGES.of(10, "the place (from 0 on) of the first sign that can not stand there");
        faultIs("!", 0);
        faultIs("p!", 1);
        faultIs("*:1;*:1;*:1;*:1;*:1;*:1;*:1;*:1;*:1;*:1;*:1;p<10:!", 49);
        faultIs("*:1;*:1;*:1;*:1;*:1;*:1;*:1;*:1;*:1;*:1;*:1;p<1:1:", 49);
    }

    private static void firstOfFaults() {
        EDGES.of(10, "the first sign that can not stand there, of two");
        faultIs("!!", 0);
        faultIs("p!<!", 1);
        faultIs("!p<1:1", 0);
        faultIs("*:1!;*:1", 3);
    }

    private static void moreMustCome() {
        EDGES.of(10, "the number of signs, if more must come");
        String text = "p<45&d>3:8;*:2";
        for (int n = 0; n <= text.length(); n++) {
            faultIs(text.substring(0, n), n == 10 || n == 14 ? -6 : n);
        }
        faultIs("p<4:", 4);
        faultIs("p<4&", 4);
    }

    private static void faultOfFiftySigns() {
        EDGES.of(10, "the number of signs, if more must come, but there is room for none");
        faultIs("*:1;*:1;*:1;*:1;*:1;*:1;*:1;*:1;*:1;*:1;*:1;*:1;*:", 50);
        faultIs("*:1;*:1;*:1;*:1;*:1;*:1;*:1;*:1;*:1;*:1;*:1;p<1:1;", 50);
    }

    private static void signsStay() {
        EDGES.of(10, "THE FAULT [is told, no sign goes]");
        FallingGlass g = padded("*:!");
        EDGES.is("fault()", g.fault(), 2);
        EDGES.is("fault() again", g.fault(), 2);
        EDGES.is("wipe()", g.wipe(), 3);
    }

    private static void casesWithSemicolons() {
        EDGES.of(10, "CASES with a ; between two");
        faultIs(";", 0);
        faultIs(";*:1", 0);
        faultIs("*:1;", 4);
        faultIs("*:1;;", 4);
        faultIs("*:1;;*:1", 4);
        faultIs("*:1*:1", 3);
        faultIs("p<1;*:1", 3);
        canStand("*:1", ";");
        canStand("w=1:x", ";");
    }

    private static void firstSignOfCase() {
        EDGES.of(10, "(p, w, s, m, y, d or u; ...) or *");
        canStand("", "pwsmydu*");
        canStand("*:1;", "pwsmydu*");
    }

    private static void testsWithAnd() {
        EDGES.of(10, "TESTS with a & between two");
        canStand("p<1&", "pwsmydu");
        faultIs("&p<1:1", 0);
        faultIs("p<1&&", 4);
        faultIs("p<1&:1", 4);
        faultIs("p<1w=1:1", 3);
        faultIs("p<1:1&", 5);
        faultIs("p<1&w=1&s=1&m=1&y=1&d=1&u=1&p<1&w=1&s=1&m=1&p=99:1", -6);
    }

    private static void relations() {
        EDGES.of(10, "<, > or =");
        canStand("p", "<>=");
        canStand("p<1&u", "<>=");
        canStand("p<", "0123456789");
    }

    private static void oneOrTwoDigits() {
        EDGES.of(10, "1 or 2 digits");
        faultIs("p<:", 2);
        faultIs("p<1:1", -6);
        faultIs("p<12:1", -6);
        faultIs("p<123:1", 4);
        faultIs("p<00:1", -6);
        canStand("p<1", "0123456789&:");
        canStand("p<12", "&:");
    }

    private static void starAlone() {
        EDGES.of(10, "TESTS ... or *");
        canStand("*", ":");
        faultIs("p<1&*:1", 4);
        faultIs("*&p<1:1", 1);
        faultIs("**:1", 1);
    }

    private static void thenColon() {
        EDGES.of(10, "then :");
        faultIs("*1", 1);
        faultIs("p<1x", 3);
        faultIs("p<12x", 4);
        faultIs("*::", 2);
    }

    private static void tenthsOrX() {
        EDGES.of(10, "then a digit 0 to 9 or x");
        canStand("*:", "0123456789x");
        canStand("p<12:", "0123456789x");
        faultIs("*:10", 3);
        faultIs("*:xx", 3);
    }

    // ---- promise 11

    private static void sayingEnds() {
        EDGES.of(11, "SAYINGS 0 to 3; UNKNOWN");
        EDGES.is("saying(0)", padded("*:1").saying(0), 1);
        EDGES.is("saying(3)", padded("*:1").saying(3), 1);
        for (int saying : new int[] {-1, 4, LEAST, MOST}) {
            FallingGlass g = padded("*:1");
            EDGES.is("saying(" + saying + ")", g.saying(saying), -1);
            EDGES.is("told(1)", g.told(1), 3);
        }
    }

    private static void sayingsAreFour() {
        EDGES.of(11, "The signs are a SAYING [that one alone]");
        FallingGlass g = new FallingGlass();
        g.day(0, 0, 0, 0, 0, 0);
        for (int saying = 0; saying < 4; saying++) {
            for (int other = 0; other < 4; other++) {
                EDGES.is("cases of " + other, g.told(10 + other), other < saying ? 1 : 0);
            }
            Due.saying(g, saying, "*:" + (saying + 1));
        }
        for (int saying = 0; saying < 4; saying++) {
            EDGES.is("odds by " + saying, g.odds(2 + saying, 0), 100 * (saying + 1));
        }
    }

    private static void signsAreGone() {
        EDGES.of(11, "(they are gone then");
        FallingGlass g = padded("*:1");
        g.saying(0);
        EDGES.is("told(1)", g.told(1), 0);
        EDGES.is("fault()", g.fault(), 0);
        EDGES.is("wipe()", g.wipe(), 0);
        EDGES.is("say", g.say('p'), 1);
    }

    private static void theseSignsAlone() {
        EDGES.of(11, "The signs are a SAYING [these, none that stood there before]");
        FallingGlass g = new FallingGlass();
        g.day(0, 0, 9, 0, 0, 0);
        EDGES.is("two cases", Due.saying(g, 0, "*:1;*:2"), 2);
        EDGES.is("one case", Due.saying(g, 0, "*:3"), 1);
        EDGES.is("told(10)", g.told(10), 1);
        EDGES.is("odds(2, 0)", g.odds(2, 0), 300);
        Due.saying(g, 0, "p<12:1;p<1:9");
        Due.saying(g, 0, "p>99&w>9:1");
        EDGES.is("odds(2, 0) of what does not fit", g.odds(2, 0), -6);
        Due.say(g, "*:8;");
        EDGES.is("the PAD is another text", g.odds(2, 0), -6);
        g.wipe();
        EDGES.is("the same cases", g.told(10), 1);
    }

    private static void noSignsNoSaying() {
        EDGES.of(11, "no signs: it says nothing any more");
        FallingGlass g = new FallingGlass();
        g.day(0, 0, 0, 0, 0, 0);
        EDGES.is("none before", g.saying(3), 0);
        Due.saying(g, 0, "*:1;*:2");
        Due.saying(g, 1, "*:3");
        EDGES.is("saying(0)", g.saying(0), 0);
        EDGES.is("told(10)", g.told(10), 0);
        EDGES.is("odds(2, 0)", g.odds(2, 0), -6);
        EDGES.is("the other one stays", g.odds(3, 0), 300);
        EDGES.is("again", g.saying(0), 0);
    }

    private static void sayingWithFault() {
        EDGES.of(11, "NO: there is a FAULT");
        String[] faulty = {"!", "p", "*", "*:", "*:!", "*:1;", "p<123:1", FIFTY.replace("10:1", "10:!"),
            "*:1;*:1;*:1;*:1;*:1;*:1;*:1;*:1;*:1;*:1;*:1;p<1:1;"};
        for (String signs : faulty) {
            FallingGlass g = new FallingGlass();
            Due.saying(g, 2, "*:7");
            Due.say(g, signs);
            EDGES.is("saying of " + signs, g.saying(2), -5);
            EDGES.is("its signs stay", g.told(1), signs.length());
            EDGES.is("the SAYING stays", g.told(12), 1);
        }
    }

    private static void sayingUnknownAheadOfNo() {
        EDGES.of(11, "the first of these that fits: UNKNOWN ahead of NO");
        EDGES.is("saying(4)", padded("!").saying(4), -1);
        EDGES.is("saying(-1)", padded("*:").saying(-1), -1);
        EDGES.is("saying(3)", padded("!").saying(3), -5);
    }

    private static void casesCounted() {
        EDGES.of(11, "CASES");
        EDGES.is("none", padded("").saying(0), 0);
        EDGES.is("one", padded("p<1&w=1&s=1:1").saying(0), 1);
        EDGES.is("two", padded("p<1&w=1:1;*:1").saying(0), 2);
        EDGES.is("the most", padded(FIFTY.replace("p<10", "*")).saying(0), 12);
    }

    private static void longestSaying() {
        EDGES.of(11, "SAYINGS ... are texts of up to 50 signs");
        String text = "y>1:1;y>1:1;y>1:1;y>1:1;y>1:1;y>1:1;p<10&w=0&s=0:x";
        EDGES.is("signs", text.length(), 50);
        FallingGlass g = new FallingGlass();
        g.day(0, 0, 9, 0, 0, 0);
        g.day(0, 0, 10, 0, 0, 0);
        EDGES.is("saying(0)", Due.saying(g, 0, text), 7);
        EDGES.is("told(10)", g.told(10), 7);
        EDGES.is("its last sign is told", g.odds(2, 0), 1000);
        EDGES.is("its last case does not fit", g.odds(2, 1), -6);
    }
}
