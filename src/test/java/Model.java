import java.math.BigInteger;
import java.util.ArrayList;
import java.util.List;
import java.util.regex.Matcher;
import java.util.regex.Pattern;

/** The document told a second time, in the plainest words and with the whole Java library, to hold the class against. */
final class Model {
    private static final Pattern SAYING = Pattern.compile("(CASE)(;(CASE))*"
        .replace("CASE", "(\\*|TEST(&TEST)*):[0-9x]")
        .replace("TEST", "[pwsmydu][<>=][0-9]{1,2}"));

    private static final class Day {
        int year;
        int month;
        Integer press;
        int wind;
        int sky;
        int rain;
        Integer wire;

        Day copy() {
            Day d = new Day();
            d.year = year;
            d.month = month;
            d.press = press;
            d.wind = wind;
            d.sky = sky;
            d.rain = rain;
            d.wire = wire;
            return d;
        }
    }

    private static final class Kept {
        int mind = 50;
        int needle = 50;
        int stick = 2;
        int[] set = {4, 5, 3};
        List<Day> days = new ArrayList<>();
        String[] sayings = {"", "", "", ""};
        List<int[]> looks = new ArrayList<>();

        Kept copy() {
            Kept k = new Kept();
            k.mind = mind;
            k.needle = needle;
            k.stick = stick;
            k.set = set.clone();
            for (Day d : days) {
                k.days.add(d.copy());
            }
            k.sayings = sayings.clone();
            k.looks.addAll(looks);
            return k;
        }
    }

    private Kept now = new Kept();
    private final Kept[] images = new Kept[2];
    private String pad = "";

    private static boolean in(int v, int from, int to) {
        return from <= v && v <= to;
    }

    int hour(int press) {
        if (!in(press, 0, 99)) return -2;
        now.mind = (now.mind + press) / 2;
        if (now.mind - now.needle > now.stick || now.needle - now.mind > now.stick) now.needle = now.mind;
        return now.needle;
    }

    int tap() {
        int from = now.needle;
        now.needle = now.mind;
        return now.needle - from;
    }

    int stick(int v) {
        if (!in(v, 0, 9)) return -2;
        int was = now.stick;
        now.stick = v;
        return was;
    }

    int day(int year, int month, int press, int wind, int sky, int rain) {
        if (!in(year, 0, 9) || !in(month, 0, 11) || !in(press, -1, 99) || !in(wind, 0, 7) || !in(sky, 0, 3)
            || !in(rain, 0, 1)) return -2;
        if (now.days.size() == 60) return -4;
        Day d = new Day();
        d.year = year;
        d.month = month;
        d.press = press == -1 ? null : press;
        d.wind = wind;
        d.sky = sky;
        d.rain = rain;
        now.days.add(d);
        return now.days.size() - 1;
    }

    int tear() {
        if (now.days.isEmpty()) return -5;
        now.days.remove(now.days.size() - 1);
        return now.days.size();
    }

    private boolean noDay(int day) {
        return day < 0 || day >= now.days.size();
    }

    private Integer lookOf(int day, char letter) {
        Day d = now.days.get(day);
        Day ahead = day == 0 ? null : now.days.get(day - 1);
        boolean both = ahead != null && ahead.press != null && d.press != null;
        switch (letter) {
            case 'p': return d.press;
            case 'w': return d.wind;
            case 's': return d.sky;
            case 'm': return d.month;
            case 'y': return ahead == null ? null : ahead.rain;
            case 'd': return !both ? null : d.press < ahead.press ? (Integer) (ahead.press - d.press) : (Integer) 0;
            case 'u': return !both ? null : d.press > ahead.press ? (Integer) (d.press - ahead.press) : (Integer) 0;
            case 'Y': return d.year;
            default: return d.rain;
        }
    }

    private static int orNone(Integer v) {
        return v == null ? -6 : v;
    }

    int look(int day, int what) {
        if (noDay(day)) return -1;
        if (!in(what, 0, 8)) return -2;
        return orNone(lookOf(day, "pwsmyduYR".charAt(what)));
    }

    int say(int sign) {
        if (!in(sign, 33, 126)) return -2;
        if (pad.length() == 50) return -4;
        pad += (char) sign;
        return pad.length();
    }

    int wipe() {
        int was = pad.length();
        pad = "";
        return was;
    }

    int fault() {
        for (int n = 1; n <= pad.length(); n++) {
            Matcher m = SAYING.matcher(pad.substring(0, n));
            if (!m.matches() && !m.hitEnd()) return n - 1;
        }
        return SAYING.matcher(pad).matches() ? -6 : pad.length();
    }

    private static int cases(String text) {
        return text.isEmpty() ? 0 : text.split(";").length;
    }

    int saying(int saying) {
        if (!in(saying, 0, 3)) return -1;
        if (!pad.isEmpty() && fault() != -6) return -5;
        now.sayings[saying] = pad;
        pad = "";
        return cases(now.sayings[saying]);
    }

    private boolean fits(String test, int day) {
        if (test.equals("*")) return true;
        Integer look = lookOf(day, test.charAt(0));
        if (look == null) return false;
        int number = Integer.parseInt(test.substring(2));
        return test.charAt(1) == '<' ? look < number : test.charAt(1) == '>' ? look > number : look == number;
    }

    private Integer said(String saying, int day) {
        if (saying.isEmpty()) return null;
        for (String one : saying.split(";")) {
            String[] parts = one.split(":");
            boolean all = true;
            for (String test : parts[0].split("&")) {
                all &= fits(test, day);
            }
            if (all) return parts[1].equals("x") ? 1000 : 100 * Integer.parseInt(parts[1]);
        }
        return null;
    }

    private Integer kind(int day, int key) {
        Integer look = lookOf(day, "pdwsmy".charAt(key));
        if (look == null) return null;
        switch (key) {
            case 0: return look / 20;
            case 1: return look == 0 ? 0 : look <= 4 ? 1 : 2;
            case 2: return look / 2;
            case 4: return look / 3;
            default: return look;
        }
    }

    private boolean areSuch(int a, int b, int keys) {
        if (now.days.get(a).year == now.days.get(b).year) return false;
        for (int key = 0; key < 6; key++) {
            if ((keys >> key) % 2 == 1) {
                Integer one = kind(a, key);
                Integer other = kind(b, key);
                if (one == null || other == null || one.intValue() != other.intValue()) return false;
            }
        }
        return true;
    }

    private int[] suchDays(int day, int keys) {
        int[] sum = new int[2];
        for (int other = 0; other < now.days.size(); other++) {
            if (areSuch(day, other, keys)) {
                sum[0]++;
                sum[1] += now.days.get(other).rain;
            }
        }
        return sum;
    }

    private Integer book(int day, int keys) {
        int[] such = suchDays(day, keys);
        return such[0] == 0 ? null : (Integer) (1000 * such[1] / such[0]);
    }

    private Integer joined(int day, int weight) {
        Integer book = book(day, now.set[0]);
        Integer wire = now.days.get(day).wire;
        return book == null || wire == null ? null : (Integer) ((book * weight + wire * (10 - weight)) / 10);
    }

    private Integer month(int day) {
        int all = 0;
        int wet = 0;
        for (Day d : now.days) {
            if (d.month == now.days.get(day).month && d.year != now.days.get(day).year) {
                all++;
                wet += d.rain;
            }
        }
        return all == 0 ? null : (Integer) (1000 * wet / all);
    }

    private Integer oddsOf(int teller, int day) {
        if (teller == 0) return day == 0 ? null : (Integer) (1000 * now.days.get(day - 1).rain);
        if (teller == 1) return month(day);
        if (teller <= 5) return said(now.sayings[teller - 2], day);
        if (teller == 6) return book(day, now.set[0]);
        if (teller == 7) return now.days.get(day).wire;
        return joined(day, now.set[1]);
    }

    int odds(int teller, int day) {
        if (!in(teller, 0, 8) || noDay(day)) return -1;
        return orNone(oddsOf(teller, day));
    }

    int such(int day, int what) {
        if (noDay(day)) return -1;
        if (!in(what, 0, 1)) return -2;
        return suchDays(day, now.set[0])[what];
    }

    int wire(int day, int v) {
        if (noDay(day)) return -1;
        if (!in(v, -1, 1000)) return -2;
        int was = orNone(now.days.get(day).wire);
        now.days.get(day).wire = v == -1 ? null : v;
        return was;
    }

    int set(int which, int v) {
        if (!in(which, 0, 2) || !in(v, 0, new int[] {63, 10, 20}[which])) return -2;
        int was = now.set[which];
        now.set[which] = v;
        return was;
    }

    private static long part(BigInteger upper, BigInteger lower, int part) {
        return (part == 0 ? upper : lower).divide(upper.gcd(lower)).longValueExact();
    }

    private static long part(long upper, long lower, int part) {
        return part(BigInteger.valueOf(upper), BigInteger.valueOf(lower), part);
    }

    /** By squares together and days, of the odds of all days (null: nothing). */
    private long[] mean(List<Integer> odds) {
        long[] sum = new long[2];
        for (int day = 0; day < odds.size(); day++) {
            if (odds.get(day) != null) {
                long off = odds.get(day) - 1000L * now.days.get(day).rain;
                sum[0] += off * off;
                sum[1]++;
            }
        }
        return sum;
    }

    private List<Integer> allOdds(int teller) {
        List<Integer> odds = new ArrayList<>();
        for (int day = 0; day < now.days.size(); day++) {
            odds.add(oddsOf(teller, day));
        }
        return odds;
    }

    long score(int teller, int part) {
        if (!in(teller, 0, 8)) return FallingGlass.LOST - 1;
        if (!in(part, 0, 1)) return FallingGlass.LOST - 2;
        long[] mean = mean(allOdds(teller));
        return mean[1] == 0 ? FallingGlass.LOST - 5 : part(mean[0], mean[1], part);
    }

    int means(int teller, int from, int to, int what) {
        if (!in(teller, 0, 8)) return -1;
        if (!in(from, 0, 1000) || !in(to, 0, 1000) || from > to || !in(what, 0, 1)) return -2;
        int[] count = new int[2];
        List<Integer> odds = allOdds(teller);
        for (int day = 0; day < odds.size(); day++) {
            if (odds.get(day) != null && in(odds.get(day), from, to)) {
                count[0]++;
                count[1] += now.days.get(day).rain;
            }
        }
        return count[what];
    }

    int best(int what) {
        if (!in(what, 0, 1)) return -2;
        int best = -6;
        long[] least = null;
        // All sets of keys in the order in which the earlier one is taken of like ones.
        for (int bits = 0; bits <= 6; bits++) {
            for (int one = 0; one < (what == 0 ? 64 : 11); one++) {
                if (bits != (what == 0 ? Integer.bitCount(one) : 0)) continue;
                List<Integer> odds = new ArrayList<>();
                for (int day = 0; day < now.days.size(); day++) {
                    odds.add(what == 0 ? book(day, one) : joined(day, one));
                }
                long[] mean = mean(odds);
                if (mean[1] > 0 && (least == null || mean[0] * least[1] < least[0] * mean[1])) {
                    least = mean;
                    best = one;
                }
            }
        }
        return best;
    }

    private int[] lotOf(int saying) {
        int[] lot = new int[4];
        List<Integer> odds = allOdds(saying + 2);
        for (int day = 0; day < odds.size(); day++) {
            if (odds.get(day) != null) {
                int rain = now.days.get(day).rain;
                boolean taken = odds.get(day) >= 500;
                lot[0]++;
                lot[1] += taken ? 1 : 0;
                lot[2] += taken ? rain : 0;
                lot[3] += rain;
            }
        }
        return lot;
    }

    int tried(int saying, int what) {
        if (!in(saying, 0, 3)) return -1;
        if (!in(what, 0, 2)) return -2;
        return lotOf(saying)[what];
    }

    private static BigInteger factorial(int n) {
        return n == 0 ? BigInteger.ONE : BigInteger.valueOf(n).multiply(factorial(n - 1));
    }

    private static BigInteger choose(int n, int k) {
        if (k < 0 || k > n) return BigInteger.ZERO;
        return factorial(n).divide(factorial(k)).divide(factorial(n - k));
    }

    private static long lotPart(int[] lot, int part) {
        BigInteger lucky = BigInteger.ZERO;
        for (int r = lot[2]; r <= lot[0]; r++) {
            lucky = lucky.add(choose(lot[3], r).multiply(choose(lot[0] - lot[3], lot[1] - r)));
        }
        return part(lucky, choose(lot[0], lot[1]), part);
    }

    long lot(int saying, int part) {
        if (!in(saying, 0, 3)) return FallingGlass.LOST - 1;
        if (!in(part, 0, 1)) return FallingGlass.LOST - 2;
        return lotPart(lotOf(saying), part);
    }

    long changed(int year, int part) {
        if (!in(year, 0, 10) || !in(part, 0, 1)) return FallingGlass.LOST - 2;
        int[] lot = new int[4];
        for (Day d : now.days) {
            lot[0]++;
            lot[1] += d.year >= year ? 1 : 0;
            lot[2] += d.year >= year ? d.rain : 0;
            lot[3] += d.rain;
        }
        return lotPart(lot, part);
    }

    int engraved(int what) {
        if (!in(what, 0, 1)) return -2;
        int best = 40;
        for (int h = 39; h >= 0; h--) {
            if (right(h) >= right(best)) best = h;
        }
        return what == 0 ? best : right(best);
    }

    int right(int h) {
        if (!in(h, 0, 40)) return -2;
        int count = 0;
        for (Day d : now.days) {
            if (d.press == null) continue;
            boolean rain = d.press + h < 40;
            boolean fair = d.press + h >= 60;
            if (rain && d.rain == 1 || fair && d.rain == 0) count++;
        }
        return count;
    }

    int glass(int x, int y, int press, int wind) {
        if (!in(x, 0, 8) || !in(y, 0, 8) || !in(press, 0, 99) || !in(wind, 0, 7)) return -2;
        if (now.looks.size() == 4) return -4;
        now.looks.add(new int[] {x, y, press, wind});
        return now.looks.size();
    }

    int clear() {
        int was = now.looks.size();
        now.looks.clear();
        return was;
    }

    private static String towards(int dx, int dy) {
        if (dx == 0 && dy == 0) return "nowhere";
        String northSouth = dy > 0 ? "N" : "S";
        String eastWest = dx > 0 ? "E" : "W";
        if (2 * Math.abs(dx) < Math.abs(dy)) return northSouth;
        if (2 * Math.abs(dy) < Math.abs(dx)) return eastWest;
        return northSouth + eastWest;
    }

    private int ways(int x, int y) {
        String[] byWind = {"E", "SE", "S", "SW", "W", "NW", "N", "NE"};
        int ways = 0;
        for (int deep = 1; deep <= 9; deep++) {
            boolean all = true;
            for (int[] look : now.looks) {
                int dx = x - look[0];
                int dy = y - look[1];
                int lower = 10 * deep - 8 * Math.max(Math.abs(dx), Math.abs(dy));
                int press = lower > 0 ? 90 - lower : 90;
                all &= in(press, look[2] - now.set[2], look[2] + now.set[2]);
                all &= towards(dx, dy).equals(byWind[look[3]]);
            }
            if (all) ways++;
        }
        return ways;
    }

    int may(int x, int y) {
        if (x == -1) {
            int sum = 0;
            for (int place = 0; place < 81; place++) {
                sum += ways(place % 9, place / 9);
            }
            return sum;
        }
        return in(x, 0, 8) && in(y, 0, 8) ? ways(x, y) : -2;
    }

    long low(int x, int y, int part) {
        if (!in(x, 0, 8) || !in(y, 0, 8) || !in(part, 0, 1)) return FallingGlass.LOST - 2;
        int all = may(-1, 0);
        return all == 0 ? FallingGlass.LOST - 5 : part(ways(x, y), all, part);
    }

    private static boolean noHay(int odds, int n, int day, int k, int gain, int loss, int cost) {
        return !in(n, 1, 9) || odds < 0 || Integer.toString(odds).length() > n || !in(day, 0, n) || !in(k, 1, 3)
            || !in(gain, 0, 999) || !in(loss, 0, 999) || !in(cost, 0, 99);
    }

    /** Of giving up, cutting, waiting; null: it can not be done. */
    private static Integer[] choices(String odds, int day, int k, int gain, int loss, int cost) {
        Integer[] values = {0, null, null};
        if (day + k <= odds.length()) {
            int dry = 1000;
            for (char tenths : odds.substring(day, day + k).toCharArray()) {
                dry = dry * (1000 - 100 * (tenths - '0')) / 1000;
            }
            values[1] = (gain + loss) * dry - 1000 * loss;
        }
        if (day < odds.length()) values[2] = value(choices(odds, day + 1, k, gain, loss, cost)) - 1000 * cost;
        return values;
    }

    private static int value(Integer[] choices) {
        int value = choices[0];
        for (Integer choice : choices) {
            if (choice != null) value = Math.max(value, choice);
        }
        return value;
    }

    private static String digits(int odds, int n) {
        String digits = Integer.toString(odds);
        return "000000000".substring(digits.length()).concat(digits).substring(9 - n);
    }

    int hay(int odds, int n, int day, int k, int gain, int loss, int cost) {
        if (noHay(odds, n, day, k, gain, loss, cost)) return -2;
        return value(choices(digits(odds, n), day, k, gain, loss, cost));
    }

    int does(int odds, int n, int day, int k, int gain, int loss, int cost) {
        if (noHay(odds, n, day, k, gain, loss, cost)) return -2;
        Integer[] choices = choices(digits(odds, n), day, k, gain, loss, cost);
        for (int i = 0; i < 3; i++) {
            if (choices[i] != null && choices[i] == value(choices)) return i;
        }
        return -99;
    }

    int believed(int teller, int gain, int loss) {
        if (!in(teller, 0, 8)) return FallingGlass.GONE - 1;
        if (!in(gain, 0, 999) || !in(loss, 0, 999)) return FallingGlass.GONE - 2;
        int sum = 0;
        List<Integer> odds = allOdds(teller);
        for (int day = 0; day < odds.size(); day++) {
            if (odds.get(day) == null || gain * (1000 - odds.get(day)) <= loss * odds.get(day)) continue;
            sum += now.days.get(day).rain == 1 ? -loss : gain;
        }
        return sum;
    }

    int image(int n) {
        if (!in(n, 0, 1)) return -2;
        images[n] = now.copy();
        return 1;
    }

    int restore(int n) {
        if (!in(n, 0, 1)) return -2;
        if (images[n] == null) return -3;
        now = images[n].copy();
        return 1;
    }

    int told(int what) {
        switch (what) {
            case 0: return now.days.size();
            case 1: return pad.length();
            case 2: return now.needle;
            case 3: return now.stick;
            case 4: return now.set[0];
            case 5: return now.set[1];
            case 6: return now.set[2];
            case 7: return now.looks.size();
            case 10: case 11: case 12: case 13: return cases(now.sayings[what - 10]);
            default: return -2;
        }
    }
}
