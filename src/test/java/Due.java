/** Counts the calls whose answers are not as due. */
final class Due {
    private final String name;
    private int checked = 0;
    private int wrong = 0;

    Due(String name) {
        this.name = name;
    }

    void is(String call, long got, long want) {
        checked++;
        if (got != want) {
            wrong++;
            if (wrong <= 50) {
                System.out.println(name + ": " + call + " answered " + got + ", due is " + want);
            }
        }
    }

    /** Says signs on the pad. */
    static void say(FallingGlass glass, String signs) {
        for (int i = 0; i < signs.length(); i++) {
            glass.say(signs.charAt(i));
        }
    }

    /** Makes signs a saying; the pad must be empty. */
    static int saying(FallingGlass glass, int n, String signs) {
        say(glass, signs);
        return glass.saying(n);
    }

    void end() {
        System.out.println(name + ": " + checked + " answers, " + wrong + " not as due");
        if (wrong > 0 || checked == 0) {
            System.exit(1);
        }
    }
}
