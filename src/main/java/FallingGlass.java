/** A glass that falls, a book of days, and those who say odds of rain. */
public final class FallingGlass {
    public static final int UNKNOWN = -1, OUTSIDE = -2, STATE = -3, FULL = -4, NO = -5, NONE = -6;
    public static final int GONE = -1000000000;
    public static final long LOST = -1000000000000000000L;

    private static final int MOST_PRESS = 99;
    private static final int MOST_STICK = 9;
    private static final int MOST_DAYS = 60;
    private static final int YEARS = 10;
    private static final int MONTHS = 12;
    private static final int WINDS = 8;
    private static final int SKIES = 4;
    private static final int MOST_SIGNS = 50;
    private static final int FIRST_SIGN = 33;
    private static final int LAST_SIGN = 126;
    private static final int SAYINGS = 4;
    private static final int IMAGES = 2;

    // The order of the looks is that of the letters in sayings.
    private static final String LETTERS = "pwsmydu";
    private static final int PRESS = 0;
    private static final int WIND = 1;
    private static final int SKY = 2;
    private static final int MONTH = 3;
    private static final int AHEAD = 4;
    private static final int DOWN = 5;
    private static final int UP = 6;
    private static final int YEAR = 7;
    private static final int RAIN = 8;

    private static final int TELLERS = 9;
    private static final int YESTERDAY = 0;
    private static final int BY_MONTH = 1;
    private static final int FIRST_SAYING = 2;
    private static final int BY_BOOK = 6;
    private static final int BY_WIRE = 7;
    private static final int JOINED = 8;
    private static final int CERTAIN = 1000;
    private static final int MOST_WEIGHT = 10;

    private static final int[] KEY_LOOKS = {PRESS, DOWN, WIND, SKY, MONTH, AHEAD};
    private static final int KEYS = 6;
    private static final int KEY_SETS = 64;
    private static final int KIND_BITS = 4;
    private static final int NO_KIND = 15;

    private static final int MOST_HEIGHT = 40;
    private static final int RAIN_BELOW = 40;
    private static final int FAIR_FROM = 60;

    private static final int SIDE = 9;
    private static final int DEEPEST = 9;
    private static final int MOST_LOOKS = 4;
    private static final int MOST_CARE = 20;
    // By sign of y, then of x, from -1 on; the middle one is nowhere.
    private static final int[] EIGHTHS = {5, 4, 3, 6, NONE, 2, 7, 0, 1};

    private static final int[] TENS = {1, 10, 100, 1000, 10000, 100000, 1000000, 10000000, 100000000, 1000000000};
    private static final int MOST_HAY_DAYS = 9;
    private static final int MOST_DRY_DAYS = 3;
    private static final int MOST_STAKE = 999;
    private static final int MOST_COST = 99;

    // The places of a fault-finder in a saying: what may stand next.
    private static final int AT_CASE = 0;
    private static final int AT_TEST = 1;
    private static final int AT_RELATION = 2;
    private static final int AT_NUMBER = 3;
    private static final int IN_NUMBER = 4;
    private static final int AFTER_NUMBER = 5;
    private static final int AFTER_STAR = 6;
    private static final int AT_ODDS = 7;
    private static final int AFTER_ODDS = 8;

    private final State now;
    private final Text pad;
    private final State[] images;
    private final Scores single;
    private final Scores weights;
    private final KeyTrial trial;

    public FallingGlass() {
        now = new State();
        pad = new Text();
        images = new State[IMAGES];
        single = new Scores(1);
        weights = new Scores(MOST_WEIGHT + 1);
        trial = new KeyTrial();
    }

    // ---- 1 the glass, the book

    public int hour(int press) {
        return within(press, 0, MOST_PRESS) ? now.brass.follow(press) : OUTSIDE;
    }

    public int tap() {
        return now.brass.settle();
    }

    public int stick(int v) {
        if (!within(v, 0, MOST_STICK)) {
            return OUTSIDE;
        }
        int before = now.brass.stick;
        now.brass.stick = v;
        return before;
    }

    public int day(int year, int month, int press, int wind, int sky, int rain) {
        boolean date = within(year, 0, YEARS - 1) && within(month, 0, MONTHS - 1);
        boolean air = within(press, -1, MOST_PRESS) && within(wind, 0, WINDS - 1);
        boolean seen = within(sky, 0, SKIES - 1) && within(rain, 0, 1);
        if (!date || !air || !seen) {
            return OUTSIDE;
        }
        return now.book.write(year, month, press, wind, sky, rain);
    }

    public int tear() {
        return now.book.dropLast();
    }

    public int look(int day, int what) {
        if (!now.book.has(day)) {
            return UNKNOWN;
        }
        return within(what, PRESS, RAIN) ? now.book.lookOf(day, what) : OUTSIDE;
    }

    // ---- 2 sayings, tellers

    public int say(int sign) {
        return within(sign, FIRST_SIGN, LAST_SIGN) ? pad.add(sign) : OUTSIDE;
    }

    public int wipe() {
        return pad.erase();
    }

    public int fault() {
        return pad.firstFault();
    }

    public int saying(int saying) {
        Text text = now.sayingAt(saying);
        if (text == null) {
            return UNKNOWN;
        }
        if (pad.size > 0 && pad.firstFault() != NONE) {
            return NO;
        }
        text.take(pad);
        pad.erase();
        return text.countCases();
    }

    public int odds(int teller, int day) {
        if (!isTeller(teller) || !now.book.has(day)) {
            return UNKNOWN;
        }
        return now.oddsOf(teller, day);
    }

    public int such(int day, int what) {
        if (!now.book.has(day)) {
            return UNKNOWN;
        }
        return within(what, 0, 1) ? now.book.countLike(day, now.keys, what) : OUTSIDE;
    }

    public int wire(int day, int v) {
        if (!now.book.has(day)) {
            return UNKNOWN;
        }
        return within(v, -1, CERTAIN) ? now.book.hear(day, v) : OUTSIDE;
    }

    public int set(int which, int v) {
        int before = OUTSIDE;
        if (which == 0 && within(v, 0, KEY_SETS - 1)) {
            before = now.keys;
            now.keys = v;
        } else if (which == 1 && within(v, 0, MOST_WEIGHT)) {
            before = now.weight;
            now.weight = v;
        } else if (which == 2 && within(v, 0, MOST_CARE)) {
            before = now.care;
            now.care = v;
        }
        return before;
    }

    // ---- 3 scores

    public long score(int teller, int part) {
        if (!isTeller(teller)) {
            return LOST + UNKNOWN;
        }
        if (!within(part, 0, 1)) {
            return LOST + OUTSIDE;
        }
        now.scoreTeller(teller, single);
        return single.daysOf(0) > 0 ? fraction(single.squaresOf(0), single.daysOf(0), part) : LOST + NO;
    }

    public int means(int teller, int from, int to, int what) {
        if (!isTeller(teller)) {
            return UNKNOWN;
        }
        if (from < 0 || from > to || to > CERTAIN || !within(what, 0, 1)) {
            return OUTSIDE;
        }
        return now.countSaid(teller, from, to, what);
    }

    public int best(int what) {
        if (what == 0) {
            return trial.leastKeys(now.book);
        }
        if (what == 1) {
            now.scoreWeights(weights);
            return weights.least(false);
        }
        return OUTSIDE;
    }

    public int tried(int saying, int what) {
        if (now.sayingAt(saying) == null) {
            return UNKNOWN;
        }
        if (!within(what, 0, 2)) {
            return OUTSIDE;
        }
        Lot lot = now.lotOfSaying(saying);
        return what == 0 ? lot.all : what == 1 ? lot.taken : lot.both;
    }

    public long lot(int saying, int part) {
        if (now.sayingAt(saying) == null) {
            return LOST + UNKNOWN;
        }
        if (!within(part, 0, 1)) {
            return LOST + OUTSIDE;
        }
        Lot lot = now.lotOfSaying(saying);
        return fraction(lot.luckyWays(), lot.ways(), part);
    }

    public long changed(int year, int part) {
        if (!within(year, 0, YEARS) || !within(part, 0, 1)) {
            return LOST + OUTSIDE;
        }
        Lot lot = now.book.lotFrom(year);
        return fraction(lot.luckyWays(), lot.ways(), part);
    }

    public int engraved(int what) {
        if (!within(what, 0, 1)) {
            return OUTSIDE;
        }
        int height = 0;
        int most = now.book.countRight(0);
        for (int h = 1; h <= MOST_HEIGHT; h++) {
            int count = now.book.countRight(h);
            if (count > most) {
                most = count;
                height = h;
            }
        }
        return what == 0 ? height : most;
    }

    public int right(int h) {
        return within(h, 0, MOST_HEIGHT) ? now.book.countRight(h) : OUTSIDE;
    }

    // ---- 4 the low, hay

    public int glass(int x, int y, int press, int wind) {
        boolean air = within(press, 0, MOST_PRESS) && within(wind, 0, WINDS - 1);
        return isPlace(x, y) && air ? now.chart.add(x, y, press, wind) : OUTSIDE;
    }

    public int clear() {
        return now.chart.erase();
    }

    public int may(int x, int y) {
        if (x == -1) {
            return now.chart.allWays(now.care);
        }
        return isPlace(x, y) ? now.chart.waysAt(x, y, now.care) : OUTSIDE;
    }

    public long low(int x, int y, int part) {
        if (!isPlace(x, y) || !within(part, 0, 1)) {
            return LOST + OUTSIDE;
        }
        int all = now.chart.allWays(now.care);
        return all > 0 ? fraction(now.chart.waysAt(x, y, now.care), all, part) : LOST + NO;
    }

    public int hay(int odds, int n, int day, int k, int gain, int loss, int cost) {
        Hay hay = new Hay(odds, n, k, gain, loss, cost);
        return hay.isAsTold() && within(day, 0, n) ? hay.valueFrom(day) : OUTSIDE;
    }

    public int does(int odds, int n, int day, int k, int gain, int loss, int cost) {
        Hay hay = new Hay(odds, n, k, gain, loss, cost);
        return hay.isAsTold() && within(day, 0, n) ? hay.choiceOn(day) : OUTSIDE;
    }

    public int believed(int teller, int gain, int loss) {
        if (!isTeller(teller)) {
            return GONE + UNKNOWN;
        }
        if (!within(gain, 0, MOST_STAKE) || !within(loss, 0, MOST_STAKE)) {
            return GONE + OUTSIDE;
        }
        return now.wash(teller, gain, loss);
    }

    public int image(int n) {
        if (!within(n, 0, images.length - 1)) {
            return OUTSIDE;
        }
        State kept = images[n];
        if (kept == null) {
            kept = new State();
            images[n] = kept;
        }
        kept.takeAll(now);
        return 1;
    }

    public int restore(int n) {
        if (!within(n, 0, images.length - 1)) {
            return OUTSIDE;
        }
        State kept = images[n];
        if (kept == null) {
            return STATE;
        }
        now.takeAll(kept);
        return 1;
    }

    public int told(int what) {
        switch (what) {
            case 0:
                return now.book.days;
            case 1:
                return pad.size;
            case 2:
                return now.brass.needle;
            case 3:
                return now.brass.stick;
            case 4:
                return now.keys;
            case 5:
                return now.weight;
            case 6:
                return now.care;
            case 7:
                return now.chart.size;
            default:
                Text text = within(what, 10, 13) ? now.sayingAt(what - 10) : null;
                return text == null ? OUTSIDE : text.countCases();
        }
    }

    // ---- what all of them use

    private static boolean within(int v, int least, int most) {
        return v >= least && v <= most;
    }

    private static boolean isTeller(int teller) {
        return within(teller, 0, TELLERS - 1);
    }

    private static boolean isPlace(int x, int y) {
        return within(x, 0, SIDE - 1) && within(y, 0, SIDE - 1);
    }

    private static boolean isDigit(int sign) {
        return within(sign, '0', '9');
    }

    private static int at(int[] row, int i) {
        return row != null && i >= 0 && i < row.length ? row[i] : NONE;
    }

    private static void put(int[] row, int i, int v) {
        if (row != null && i >= 0 && i < row.length) {
            row[i] = v;
        }
    }

    private static void copy(int[] from, int[] to) {
        if (from != null && to != null) {
            System.arraycopy(from, 0, to, 0, Math.min(from.length, to.length));
        }
    }

    private static int thousandths(int wet, int all) {
        return all > 0 ? CERTAIN * wet / all : NONE;
    }

    private static long fraction(long upper, long lower, int part) {
        long divisor = commonDivisor(upper, lower);
        if (divisor == 0) {
            return 0;
        }
        return (part == 0 ? upper : lower) / divisor;
    }

    private static long commonDivisor(long a, long b) {
        // Euclid's steps on numbers of 63 bits are fewer than 100.
        for (int step = 0; step < 200 && b != 0; step++) {
            long rest = a % b;
            a = b;
            b = rest;
        }
        return a;
    }

    /** How many ways there are to take some of so many things: at most 60 of these, so that it fits. */
    private static long choose(int things, int taken) {
        if (taken < 0 || taken > things) {
            return 0;
        }
        long ways = 1;
        for (int i = 1; i <= taken; i++) {
            ways = ways * (things - taken + i) / i;
        }
        return ways;
    }

    /** All that an image keeps. */
    private static final class State {
        final Brass brass = new Brass();
        final Book book = new Book();
        final Chart chart = new Chart();
        final Text[] sayings = new Text[SAYINGS];
        int keys = 4;
        int weight = 5;
        int care = 3;

        State() {
            for (int i = 0; i < sayings.length; i++) {
                sayings[i] = new Text();
            }
        }

        void takeAll(State other) {
            brass.take(other.brass);
            book.take(other.book);
            chart.take(other.chart);
            for (int i = 0; i < sayings.length; i++) {
                Text mine = sayingAt(i);
                Text theirs = other.sayingAt(i);
                if (mine != null && theirs != null) {
                    mine.take(theirs);
                }
            }
            keys = other.keys;
            weight = other.weight;
            care = other.care;
        }

        Text sayingAt(int i) {
            return i >= 0 && i < sayings.length ? sayings[i] : null;
        }

        int oddsOf(int teller, int day) {
            switch (teller) {
                case YESTERDAY:
                    int rained = book.lookOf(day, AHEAD);
                    return rained == NONE ? NONE : CERTAIN * rained;
                case BY_MONTH:
                    return book.monthOdds(day);
                case BY_BOOK:
                    return book.likeOdds(day, keys);
                case BY_WIRE:
                    return book.wireOf(day);
                case JOINED:
                    return join(book.likeOdds(day, keys), book.wireOf(day), weight);
                default:
                    Text text = sayingAt(teller - FIRST_SAYING);
                    return text == null ? NONE : text.oddsTold(book, day);
            }
        }

        private static int join(int like, int wired, int weight) {
            if (like == NONE || wired == NONE) {
                return NONE;
            }
            return (like * weight + wired * (MOST_WEIGHT - weight)) / MOST_WEIGHT;
        }

        void scoreTeller(int teller, Scores scores) {
            scores.erase();
            for (int day = 0; day < book.days; day++) {
                scores.add(0, oddsOf(teller, day), book.rainOf(day));
            }
        }

        void scoreWeights(Scores scores) {
            scores.erase();
            for (int day = 0; day < book.days; day++) {
                int like = book.likeOdds(day, keys);
                for (int w = 0; w <= MOST_WEIGHT; w++) {
                    scores.add(w, join(like, book.wireOf(day), w), book.rainOf(day));
                }
            }
        }

        /** Days with odds from one number to another and with at least so much rain (0: all, 1: the wet ones). */
        int countSaid(int teller, int from, int to, int rain) {
            int count = 0;
            for (int day = 0; day < book.days; day++) {
                if (book.rainOf(day) >= rain && within(oddsOf(teller, day), from, to)) {
                    count++;
                }
            }
            return count;
        }

        Lot lotOfSaying(int saying) {
            Lot lot = new Lot();
            for (int day = 0; day < book.days; day++) {
                int said = oddsOf(FIRST_SAYING + saying, day);
                if (said != NONE) {
                    lot.add(said >= CERTAIN / 2, book.rainOf(day));
                }
            }
            return lot;
        }

        int wash(int teller, int gain, int loss) {
            int sum = 0;
            for (int day = 0; day < book.days; day++) {
                int said = oddsOf(teller, day);
                if (said != NONE && gain * (CERTAIN - said) > loss * said) {
                    sum += book.rainOf(day) == 1 ? -loss : gain;
                }
            }
            return sum;
        }
    }

    /** The glass on the wall. */
    private static final class Brass {
        int mind = 50;
        int needle = 50;
        int stick = 2;

        void take(Brass other) {
            mind = other.mind;
            needle = other.needle;
            stick = other.stick;
        }

        int follow(int press) {
            mind = (mind + press) / 2;
            if (Math.abs(mind - needle) > stick) {
                needle = mind;
            }
            return needle;
        }

        int settle() {
            int up = mind - needle;
            needle = mind;
            return up;
        }
    }

    /** The days, one behind another, with what the wire told of each. */
    private static final class Book {
        int days;
        private final int[] years = new int[MOST_DAYS];
        private final int[] months = new int[MOST_DAYS];
        private final int[] presses = new int[MOST_DAYS];
        private final int[] winds = new int[MOST_DAYS];
        private final int[] skies = new int[MOST_DAYS];
        private final int[] rains = new int[MOST_DAYS];
        private final int[] wires = new int[MOST_DAYS];
        // For each day its kind by each key, so that days are held together fast.
        private final int[] kinds = new int[MOST_DAYS];

        void take(Book other) {
            days = other.days;
            copy(other.years, years);
            copy(other.months, months);
            copy(other.presses, presses);
            copy(other.winds, winds);
            copy(other.skies, skies);
            copy(other.rains, rains);
            copy(other.wires, wires);
            copy(other.kinds, kinds);
        }

        boolean has(int day) {
            return day >= 0 && day < days;
        }

        int write(int year, int month, int press, int wind, int sky, int rain) {
            if (days >= MOST_DAYS) {
                return FULL;
            }
            int day = days;
            days++;
            put(years, day, year);
            put(months, day, month);
            put(presses, day, press < 0 ? NONE : press);
            put(winds, day, wind);
            put(skies, day, sky);
            put(rains, day, rain);
            put(wires, day, NONE);
            put(kinds, day, kindsOf(day));
            return day;
        }

        int dropLast() {
            if (days <= 0) {
                return NO;
            }
            days--;
            return days;
        }

        int hear(int day, int v) {
            int before = wireOf(day);
            put(wires, day, v < 0 ? NONE : v);
            return before;
        }

        int wireOf(int day) {
            return at(wires, day);
        }

        int rainOf(int day) {
            return at(rains, day);
        }

        int lookOf(int day, int what) {
            switch (what) {
                case PRESS:
                    return at(presses, day);
                case WIND:
                    return at(winds, day);
                case SKY:
                    return at(skies, day);
                case MONTH:
                    return at(months, day);
                case AHEAD:
                    return at(rains, day - 1);
                case DOWN:
                    return rise(at(presses, day), at(presses, day - 1));
                case UP:
                    return rise(at(presses, day - 1), at(presses, day));
                case YEAR:
                    return at(years, day);
                case RAIN:
                    return at(rains, day);
                default:
                    return NONE;
            }
        }

        private static int rise(int from, int to) {
            return from == NONE || to == NONE ? NONE : Math.max(0, to - from);
        }

        private int kindsOf(int day) {
            int all = 0;
            for (int key = 0; key < KEYS; key++) {
                all |= kindOf(key, lookOf(day, at(KEY_LOOKS, key))) << (KIND_BITS * key);
            }
            return all;
        }

        private static int kindOf(int key, int look) {
            if (look == NONE) {
                return NO_KIND;
            }
            switch (key) {
                case 0:
                    return look / 20;
                case 1:
                    return look == 0 ? 0 : look < 5 ? 1 : 2;
                case 2:
                    return look / 2;
                case 4:
                    return look / 3;
                default:
                    return look;
            }
        }

        boolean inOtherYears(int day, int other) {
            return at(years, day) != at(years, other);
        }

        /** All the keys by which both days are alike, as bits. */
        int alikeKeys(int day, int other) {
            int mine = at(kinds, day);
            int differ = mine ^ at(kinds, other);
            int keys = 0;
            for (int key = 0; key < KEYS; key++) {
                int shift = KIND_BITS * key;
                if (((differ >> shift) & NO_KIND) == 0 && ((mine >> shift) & NO_KIND) != NO_KIND) {
                    keys |= 1 << key;
                }
            }
            return keys;
        }

        private boolean areLike(int day, int other, int keys) {
            return inOtherYears(day, other) && (alikeKeys(day, other) & keys) == keys;
        }

        /** Days in other years that are like this one, with at least so much rain (0: all, 1: the wet ones). */
        int countLike(int day, int keys, int rain) {
            int count = 0;
            for (int other = 0; other < days; other++) {
                if (rainOf(other) >= rain && areLike(day, other, keys)) {
                    count++;
                }
            }
            return count;
        }

        int likeOdds(int day, int keys) {
            int all = 0;
            int wet = 0;
            for (int other = 0; other < days; other++) {
                if (areLike(day, other, keys)) {
                    all++;
                    wet += rainOf(other);
                }
            }
            return thousandths(wet, all);
        }

        int monthOdds(int day) {
            int all = 0;
            int wet = 0;
            for (int other = 0; other < days; other++) {
                if (inOtherYears(day, other) && at(months, day) == at(months, other)) {
                    all++;
                    wet += rainOf(other);
                }
            }
            return thousandths(wet, all);
        }

        Lot lotFrom(int year) {
            Lot lot = new Lot();
            for (int day = 0; day < days; day++) {
                lot.add(at(years, day) >= year, rainOf(day));
            }
            return lot;
        }

        /** The days on which the engraver's words, read at a height, mean what came. */
        int countRight(int height) {
            int count = 0;
            for (int day = 0; day < days; day++) {
                int press = at(presses, day);
                if (press != NONE && meant(press + height) == rainOf(day)) {
                    count++;
                }
            }
            return count;
        }

        private static int meant(int reading) {
            return reading < RAIN_BELOW ? 1 : reading >= FAIR_FROM ? 0 : NONE;
        }
    }

    /** Signs one behind another: the pad, or a saying. */
    private static final class Text {
        int size;
        private final int[] signs = new int[MOST_SIGNS];

        void take(Text other) {
            size = other.size;
            copy(other.signs, signs);
        }

        int add(int sign) {
            if (size >= MOST_SIGNS) {
                return FULL;
            }
            put(signs, size, sign);
            size++;
            return size;
        }

        int erase() {
            int before = size;
            size = 0;
            return before;
        }

        int firstFault() {
            int place = AT_CASE;
            for (int i = 0; i < size; i++) {
                place = placeBehind(place, at(signs, i));
                if (place == NONE) {
                    return i;
                }
            }
            return place == AFTER_ODDS ? NONE : size;
        }

        /** Where one is behind a sign; NONE: the sign can not stand there. */
        private static int placeBehind(int place, int sign) {
            switch (place) {
                case AT_CASE:
                    return sign == '*' ? AFTER_STAR : isLetter(sign) ? AT_RELATION : NONE;
                case AT_TEST:
                    return isLetter(sign) ? AT_RELATION : NONE;
                case AT_RELATION:
                    return sign == '<' || sign == '>' || sign == '=' ? AT_NUMBER : NONE;
                case AT_NUMBER:
                    return isDigit(sign) ? IN_NUMBER : NONE;
                case IN_NUMBER:
                    return isDigit(sign) ? AFTER_NUMBER : placeBehindNumber(sign);
                case AFTER_NUMBER:
                    return placeBehindNumber(sign);
                case AFTER_STAR:
                    return sign == ':' ? AT_ODDS : NONE;
                case AT_ODDS:
                    return isDigit(sign) || sign == 'x' ? AFTER_ODDS : NONE;
                case AFTER_ODDS:
                    return sign == ';' ? AT_CASE : NONE;
                default:
                    return NONE;
            }
        }

        private static int placeBehindNumber(int sign) {
            return sign == '&' ? AT_TEST : sign == ':' ? AT_ODDS : NONE;
        }

        private static boolean isLetter(int sign) {
            return LETTERS.indexOf((char) sign) >= 0;
        }

        int countCases() {
            int cases = size > 0 ? 1 : 0;
            for (int i = 0; i < size; i++) {
                if (at(signs, i) == ';') {
                    cases++;
                }
            }
            return cases;
        }

        /** What the first case that fits tells of a day; the text is without a fault. */
        int oddsTold(Book book, int day) {
            boolean fits = true;
            for (int i = 0; i < size; i++) {
                int sign = at(signs, i);
                if (sign == ':') {
                    if (fits) {
                        return oddsBy(at(signs, i + 1));
                    }
                    fits = true;
                } else if (isLetter(sign)) {
                    int look = book.lookOf(day, LETTERS.indexOf((char) sign));
                    fits = fits && testFits(look, i + 1);
                }
            }
            return NONE;
        }

        private static int oddsBy(int sign) {
            return sign == 'x' ? CERTAIN : (sign - '0') * CERTAIN / 10;
        }

        private boolean testFits(int look, int i) {
            if (look == NONE) {
                return false;
            }
            int number = at(signs, i + 1) - '0';
            int next = at(signs, i + 2);
            if (isDigit(next)) {
                number = 10 * number + next - '0';
            }
            switch (at(signs, i)) {
                case '<':
                    return look < number;
                case '>':
                    return look > number;
                default:
                    return look == number;
            }
        }
    }

    /** How several candidates score: the squares together, and by how many days. */
    private static final class Scores {
        private final int[] squares;
        private final int[] days;

        Scores(int candidates) {
            int size = Math.max(0, candidates);
            squares = new int[size];
            days = new int[size];
        }

        void erase() {
            for (int i = 0; i < days.length; i++) {
                put(squares, i, 0);
                put(days, i, 0);
            }
        }

        void add(int candidate, int said, int rain) {
            if (said != NONE) {
                int off = said - CERTAIN * rain;
                put(squares, candidate, at(squares, candidate) + off * off);
                put(days, candidate, at(days, candidate) + 1);
            }
        }

        int squaresOf(int candidate) {
            return at(squares, candidate);
        }

        int daysOf(int candidate) {
            return at(days, candidate);
        }

        /** The candidate of the least mean; of several the one of the fewest bits, if asked, then the least. */
        int least(boolean fewestBits) {
            int best = NONE;
            for (int i = 0; i < days.length; i++) {
                if (daysOf(i) > 0 && (best == NONE || isBetter(i, best, fewestBits))) {
                    best = i;
                }
            }
            return best;
        }

        private boolean isBetter(int one, int other, boolean fewestBits) {
            long mine = (long) squaresOf(one) * daysOf(other);
            long theirs = (long) squaresOf(other) * daysOf(one);
            if (mine != theirs) {
                return mine < theirs;
            }
            return fewestBits && Integer.bitCount(one) < Integer.bitCount(other);
        }
    }

    /** Scores the book by each set of keys. */
    private static final class KeyTrial {
        private final int[] all = new int[KEY_SETS];
        private final int[] wet = new int[KEY_SETS];
        private final Scores scores = new Scores(KEY_SETS);

        int leastKeys(Book book) {
            scores.erase();
            for (int day = 0; day < book.days; day++) {
                countByKeys(book, day);
                for (int keys = 0; keys < KEY_SETS; keys++) {
                    scores.add(keys, thousandths(at(wet, keys), at(all, keys)), book.rainOf(day));
                }
            }
            return scores.least(true);
        }

        private void countByKeys(Book book, int day) {
            for (int keys = 0; keys < KEY_SETS; keys++) {
                put(all, keys, 0);
                put(wet, keys, 0);
            }
            for (int other = 0; other < book.days; other++) {
                if (book.inOtherYears(day, other)) {
                    int keys = book.alikeKeys(day, other);
                    put(all, keys, at(all, keys) + 1);
                    put(wet, keys, at(wet, keys) + book.rainOf(other));
                }
            }
            addSupersets(all);
            addSupersets(wet);
        }

        // Days that are alike by some keys are alike by each part of these too.
        private static void addSupersets(int[] counts) {
            for (int key = 0; key < KEYS; key++) {
                int bit = 1 << key;
                for (int keys = 0; keys < KEY_SETS; keys++) {
                    if ((keys & bit) == 0) {
                        put(counts, keys, at(counts, keys) + at(counts, keys | bit));
                    }
                }
            }
        }
    }

    /** Things of which some are marked and some are taken. */
    private static final class Lot {
        int all;
        int taken;
        int both;
        private int marked;

        void add(boolean isTaken, int rain) {
            all++;
            marked += rain;
            if (isTaken) {
                taken++;
                both += rain;
            }
        }

        long ways() {
            return choose(all, taken);
        }

        /** The ways in which as many marked ones as these, or more, are taken. */
        long luckyWays() {
            long sum = 0;
            for (int i = both; i <= Math.min(taken, marked); i++) {
                sum += choose(marked, i) * choose(all - marked, taken - i);
            }
            return sum;
        }
    }

    /** Where glasses stood, and what they and the wind told of the low. */
    private static final class Chart {
        int size;
        private final int[] xs = new int[MOST_LOOKS];
        private final int[] ys = new int[MOST_LOOKS];
        private final int[] presses = new int[MOST_LOOKS];
        private final int[] winds = new int[MOST_LOOKS];

        void take(Chart other) {
            size = other.size;
            copy(other.xs, xs);
            copy(other.ys, ys);
            copy(other.presses, presses);
            copy(other.winds, winds);
        }

        int add(int x, int y, int press, int wind) {
            if (size >= MOST_LOOKS) {
                return FULL;
            }
            put(xs, size, x);
            put(ys, size, y);
            put(presses, size, press);
            put(winds, size, wind);
            size++;
            return size;
        }

        int erase() {
            int before = size;
            size = 0;
            return before;
        }

        int allWays(int care) {
            int ways = 0;
            for (int x = 0; x < SIDE; x++) {
                for (int y = 0; y < SIDE; y++) {
                    ways += waysAt(x, y, care);
                }
            }
            return ways;
        }

        int waysAt(int x, int y, int care) {
            int ways = 0;
            for (int deep = 1; deep <= DEEPEST; deep++) {
                if (fitsAll(x, y, deep, care)) {
                    ways++;
                }
            }
            return ways;
        }

        private boolean fitsAll(int x, int y, int deep, int care) {
            for (int i = 0; i < size; i++) {
                int right = x - at(xs, i);
                int up = y - at(ys, i);
                int far = Math.max(Math.abs(right), Math.abs(up));
                int press = 90 - Math.max(0, 10 * deep - 8 * far);
                boolean pressFits = Math.abs(press - at(presses, i)) <= care;
                // The low lies two eighths on from where the wind blows.
                if (!pressFits || eighth(right, up) != (at(winds, i) + 2) % WINDS) {
                    return false;
                }
            }
            return true;
        }

        /** Towards which eighth a place lies that is so far to the right and up; NONE: it is the same place. */
        private static int eighth(int right, int up) {
            int wide = Math.abs(right);
            int high = Math.abs(up);
            int east = 2 * wide < high ? 0 : Integer.signum(right);
            int north = 2 * high < wide ? 0 : Integer.signum(up);
            return at(EIGHTHS, 3 * (north + 1) + east + 1);
        }
    }

    /** When to cut hay by odds of rain. */
    private static final class Hay {
        private final int odds;
        private final int days;
        private final int dryDays;
        private final int gain;
        private final int loss;
        private final int cost;

        Hay(int odds, int days, int dryDays, int gain, int loss, int cost) {
            this.odds = odds;
            this.days = days;
            this.dryDays = dryDays;
            this.gain = gain;
            this.loss = loss;
            this.cost = cost;
        }

        boolean isAsTold() {
            boolean forecast = within(days, 1, MOST_HAY_DAYS) && odds >= 0 && odds < at(TENS, days);
            boolean stakes = within(gain, 0, MOST_STAKE) && within(loss, 0, MOST_STAKE) && within(cost, 0, MOST_COST);
            return forecast && stakes && within(dryDays, 1, MOST_DRY_DAYS);
        }

        int valueFrom(int day) {
            int value = 0;
            for (int d = days - 1; d >= day; d--) {
                value = Math.max(0, value - 1000 * cost);
                if (canCut(d)) {
                    value = Math.max(value, valueOfCutting(d));
                }
            }
            return value;
        }

        /** 0 gives up, 1 cuts, 2 waits. */
        int choiceOn(int day) {
            int value = valueFrom(day);
            if (value == 0) {
                return 0;
            }
            return canCut(day) && value == valueOfCutting(day) ? 1 : 2;
        }

        private boolean canCut(int day) {
            return day + dryDays <= days;
        }

        private int valueOfCutting(int day) {
            int dry = CERTAIN;
            for (int d = day; d < day + dryDays; d++) {
                dry = dry * (CERTAIN - 100 * tenthsOf(d)) / CERTAIN;
            }
            return (gain + loss) * dry - CERTAIN * loss;
        }

        private int tenthsOf(int day) {
            int ten = at(TENS, days - 1 - day);
            return ten > 0 ? odds / ten % 10 : 0;
        }
    }
}
