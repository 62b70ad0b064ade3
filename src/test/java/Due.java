/** What the tests share: comparing answers, and making houses and rows. */
final class Due {
    private static int wrong = 0;
    private static int compared = 0;
    private static String about = "";

    private Due() {
    }

    /** What is written ahead of each wrong answer from here on. */
    static void about(String words) {
        about = words;
    }

    static int compared() {
        return compared;
    }

    static void is(String call, long got, long want) {
        compared++;
        if (got != want) {
            wrong++;
            System.out.println(about + call + " answered " + got + ", due is " + want);
        }
    }

    /** A call that is refused with a FINDING, which is counted once. */
    static void finding(GuardFigures x, int which, String call, java.util.function.IntSupplier made) {
        int before = x.findings(which);
        is(call, made.getAsInt(), GuardFigures.FINDING);
        is("finding() behind " + call, x.finding(), which);
        is("findings(" + which + ") behind " + call, x.findings(which), before + 1);
    }

    static void end() {
        if (wrong != 0) {
            System.out.println(wrong + " answers are not as due");
            System.exit(1);
        }
        System.out.println("all answers are as due");
    }

    static void text(GuardFigures x, int t, String signs) {
        is("text", x.text(t, signs.length()), signs.length());
        for (int i = 0; i < signs.length(); i++) {
            is("put", x.put(t, i, signs.charAt(i)), 1032);
        }
    }

    static GuardFigures house(String signs, String figures) {
        GuardFigures x = new GuardFigures();
        text(x, 0, signs);
        if (x.house(0) < 0) {
            is("house of " + signs, x.house(0), 2);
        }
        write(x, figures);
        return x;
    }

    static void write(GuardFigures x, String figures) {
        for (int k = 0; k < figures.length(); k++) {
            int size = x.count(1);
            is("add", x.add(figures.charAt(k) - '0'), size + 1);
        }
    }

    static void row(GuardFigures x, int r, int... ints) {
        is("row", x.row(r, ints.length), ints.length);
        for (int i = 0; i < ints.length; i++) {
            is("lay", x.lay(r, i, ints[i]), 1);
        }
    }

    static void told(GuardFigures x, String call, int got, int want, int asked) {
        is(call, got, want);
        is("asked() behind " + call, x.asked(), asked);
    }

    static void share(GuardFigures x, String call, int got, long upper, long lower) {
        is(call, got, 1);
        is("upper() behind " + call, x.upper(), upper);
        is("lower() behind " + call, x.lower(), lower);
    }
}
