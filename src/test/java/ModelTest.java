import java.util.Random;

/** Runs of calls of every kind, the same ones each time, held against the Model. */
public final class ModelTest {
    private static final int RUNS = 1500;
    // An object is used for so many calls; of those the last ones ask for all that can be asked.
    private static final int CALLS = 512;
    private static final int CHANGES = 380;
    // A saying takes as many calls as this, no step takes more.
    private static final int STEP = 60;
    private static final Due DUE = new Due("ModelTest");

    private final Random random;
    private final FallingGlass glass = new FallingGlass();
    private final Model model = new Model();
    private final int run;
    // Books of few years, months and presses have more days that are alike.
    private final int years;
    private final int months;
    private final int kinds;
    private int calls = 0;

    private ModelTest(int run) {
        this.run = run;
        random = new Random(7919L * run + 1);
        years = 1 + random.nextInt(10);
        months = 1 + random.nextInt(12);
        kinds = 1 + random.nextInt(8);
    }

    public static void main(String[] args) {
        for (int run = 0; run < RUNS; run++) {
            ModelTest test = new ModelTest(run);
            test.fill();
            while (test.calls + STEP <= CHANGES) {
                test.step();
            }
            test.askAll();
        }
        DUE.end();
    }

    private int any(int least, int most) {
        int dice = random.nextInt(60);
        if (dice == 0) {
            return least - 1;
        }
        if (dice == 1) {
            return most + 1;
        }
        if (dice == 2) {
            return random.nextInt();
        }
        if (dice < 6) {
            return random.nextBoolean() ? least : most;
        }
        return least + random.nextInt(most - least + 1);
    }

    private int anyDay() {
        return any(0, Math.max(0, model.told(0) - 1));
    }

    private void due(String call, long got, long want) {
        calls++;
        DUE.is("run " + run + " " + call, got, want);
    }

    private void fill() {
        int days = random.nextInt(4) == 0 ? 62 : random.nextInt(62);
        for (int i = 0; i < days; i++) {
            writeDay();
        }
        for (int i = random.nextInt(20); i > 0; i--) {
            int day = anyDay();
            int v = any(-1, 1000);
            due("wire " + day + " " + v, glass.wire(day, v), model.wire(day, v));
        }
    }

    private void step() {
        int kind = random.nextInt(32);
        if (kind < 9) {
            change(kind);
        } else if (kind < 12) {
            say();
        } else {
            ask(kind + 2);
        }
    }

    private void change(int kind) {
        switch (kind) {
            case 0: {
                int press = any(0, 99);
                due("hour " + press, glass.hour(press), model.hour(press));
                break;
            }
            case 1:
                due("tap", glass.tap(), model.tap());
                break;
            case 2: {
                int v = any(0, 9);
                due("stick " + v, glass.stick(v), model.stick(v));
                break;
            }
            case 3:
            case 4:
                writeDay();
                break;
            case 5:
                if (random.nextInt(3) == 0) {
                    due("tear", glass.tear(), model.tear());
                }
                break;
            case 6: {
                int day = anyDay();
                int v = any(-1, 1000);
                due("wire " + day + " " + v, glass.wire(day, v), model.wire(day, v));
                break;
            }
            case 7: {
                int which = any(0, 2);
                int v = any(0, which == 0 ? 63 : which == 1 ? 10 : 20);
                due("set " + which + " " + v, glass.set(which, v), model.set(which, v));
                break;
            }
            default:
                keep();
        }
    }

    private void writeDay() {
        int year = any(0, years - 1);
        int month = any(0, months - 1);
        int press = random.nextInt(8) == 0 ? -1 : kinds < 4 ? 40 + any(0, 9) : any(0, 99);
        int wind = any(0, kinds - 1);
        int sky = any(0, Math.min(3, kinds - 1));
        int rain = random.nextInt(40) == 0 ? any(0, 1) : (wind + random.nextInt(3)) & 1;
        due("day", glass.day(year, month, press, wind, sky, rain), model.day(year, month, press, wind, sky, rain));
    }

    private void keep() {
        int n = random.nextInt(20) == 0 ? any(0, 1) : random.nextInt(2);
        if (random.nextInt(3) > 0) {
            due("image " + n, glass.image(n), model.image(n));
        } else {
            due("restore " + n, glass.restore(n), model.restore(n));
        }
    }

    private String test() {
        int letter = random.nextInt(7);
        int most = new int[] {99, 7, 3, 11, 1, 20, 20}[letter];
        return "pwsmydu".substring(letter, letter + 1) + "<>=".charAt(random.nextInt(3)) + random.nextInt(most + 1);
    }

    private String text() {
        StringBuilder text = new StringBuilder();
        int cases = 1 + random.nextInt(4);
        for (int i = 0; i < cases; i++) {
            text.append(i > 0 ? ";" : "");
            if (random.nextInt(4) == 0) {
                text.append('*');
            } else {
                text.append(test());
                for (int more = random.nextInt(12); more > 6; more -= 2) {
                    text.append('&').append(test());
                }
            }
            text.append(':').append("0123456789x".charAt(random.nextInt(11)));
        }
        return text.substring(0, Math.min(text.length(), 51));
    }

    private void say() {
        String text = text();
        int dice = random.nextInt(4);
        int cut = random.nextInt(text.length() + 1);
        if (dice == 0) {
            text = text.substring(0, cut);
        } else if (dice == 1) {
            String signs = "pwsmydux<>=&*:;0123456789!~qP";
            text = text.substring(0, cut) + signs.charAt(random.nextInt(signs.length())) + text.substring(cut);
        }
        for (int i = 0; i < text.length(); i++) {
            due("say", glass.say(text.charAt(i)), model.say(text.charAt(i)));
        }
        due("fault of " + text, glass.fault(), model.fault());
        if (random.nextInt(10) == 0) {
            int sign = any(33, 126);
            due("say " + sign, glass.say(sign), model.say(sign));
            due("fault", glass.fault(), model.fault());
        }
        int n = any(0, 3);
        due("saying " + n + " " + text, glass.saying(n), model.saying(n));
        if (random.nextInt(5) > 0) {
            due("wipe", glass.wipe(), model.wipe());
        }
    }

    private void ask(int kind) {
        int part = any(0, 1);
        switch (kind) {
            case 14:
                askDay();
                break;
            case 15: {
                int teller = any(0, 8);
                due("score " + teller, glass.score(teller, part), model.score(teller, part));
                break;
            }
            case 16: {
                int teller = any(0, 8);
                int from = any(0, 1000);
                int to = random.nextInt(4) == 0 ? any(0, 1000) : Math.max(from, any(0, 1000));
                due("means " + teller, glass.means(teller, from, to, part), model.means(teller, from, to, part));
                break;
            }
            case 17:
                if (random.nextInt(4) == 0) {
                    due("best " + part, glass.best(part), model.best(part));
                }
                break;
            case 18: {
                int saying = any(0, 3);
                int what = any(0, 2);
                due("tried " + saying, glass.tried(saying, what), model.tried(saying, what));
                due("lot " + saying, glass.lot(saying, part), model.lot(saying, part));
                break;
            }
            case 19: {
                int year = any(0, 10);
                due("changed " + year, glass.changed(year, part), model.changed(year, part));
                break;
            }
            case 20: {
                int h = any(0, 40);
                due("right " + h, glass.right(h), model.right(h));
                due("engraved " + part, glass.engraved(part), model.engraved(part));
                break;
            }
            case 21:
            case 22:
            case 23:
                askLow();
                break;
            case 24:
            case 25:
            case 26:
                askHay();
                break;
            case 27: {
                int teller = any(0, 8);
                int gain = any(0, 999);
                int loss = any(0, 999);
                due("believed " + teller, glass.believed(teller, gain, loss), model.believed(teller, gain, loss));
                break;
            }
            case 28: {
                int what = any(0, 14);
                due("told " + what, glass.told(what), model.told(what));
                break;
            }
            default:
                askDay();
        }
    }

    private void askDay() {
        int day = anyDay();
        int what = any(0, 8);
        int teller = any(0, 8);
        int rain = any(0, 1);
        due("look " + day + " " + what, glass.look(day, what), model.look(day, what));
        due("odds " + teller + " " + day, glass.odds(teller, day), model.odds(teller, day));
        due("such " + day, glass.such(day, rain), model.such(day, rain));
    }

    private void askLow() {
        if (random.nextInt(4) == 0) {
            due("clear", glass.clear(), model.clear());
        }
        if (random.nextInt(2) == 0) {
            int x = any(0, 8);
            int y = any(0, 8);
            int press = random.nextInt(4) == 0 ? any(0, 99) : any(60, 90);
            int wind = any(0, 7);
            due("glass", glass.glass(x, y, press, wind), model.glass(x, y, press, wind));
        }
        int x = any(0, 8);
        int y = any(0, 8);
        int part = any(0, 1);
        due("may " + x + " " + y, glass.may(x, y), model.may(x, y));
        due("may all", glass.may(-1, y), model.may(-1, y));
        due("low " + x + " " + y, glass.low(x, y, part), model.low(x, y, part));
    }

    private void askHay() {
        int n = any(1, 9);
        int ten = 1;
        for (int i = 0; i < n && i < 9; i++) {
            ten *= 10;
        }
        int odds = any(0, ten - 1);
        int day = any(0, Math.max(0, Math.min(9, n)));
        int k = any(1, 3);
        int gain = any(0, 999);
        int loss = random.nextInt(3) == 0 ? any(0, 50) : any(0, 999);
        int cost = random.nextInt(3) == 0 ? 0 : any(0, 99);
        String call = odds + " " + n + " " + day + " " + k + " " + gain + " " + loss + " " + cost;
        due("hay " + call, glass.hay(odds, n, day, k, gain, loss, cost), model.hay(odds, n, day, k, gain, loss, cost));
        due("does " + call, glass.does(odds, n, day, k, gain, loss, cost), model.does(odds, n, day, k, gain, loss, cost));
    }

    /** As many questions as there are calls left, each of another kind in turn. */
    private void askAll() {
        for (int turn = random.nextInt(8); calls < CALLS - 2; turn++) {
            switch (turn % 8) {
                case 0:
                case 1:
                case 2:
                    askDay();
                    break;
                case 3: {
                    int teller = random.nextInt(9);
                    due("score " + teller + " 0", glass.score(teller, 0), model.score(teller, 0));
                    due("score " + teller + " 1", glass.score(teller, 1), model.score(teller, 1));
                    break;
                }
                case 4: {
                    int what = turn / 8 % 15;
                    due("told " + what, glass.told(what), model.told(what));
                    break;
                }
                case 5:
                    ask(15 + random.nextInt(6));
                    break;
                case 6: {
                    int part = random.nextInt(2);
                    if (turn < 24) {
                        due("best " + part, glass.best(part), model.best(part));
                    }
                    break;
                }
                default:
                    due("may", glass.may(turn % 9, turn % 7), model.may(turn % 9, turn % 7));
            }
        }
    }
}
