/** What the tests share: they say which answers are not as due, and end with 1 if there was one. */
final class Due {
    static final int BEYOND = -100000001;
    static final int FULL = -100000002;
    static final int KIND = -100000003;
    static final int NONE = -100000004;
    static final int STATE = -100000005;
    static final int MISSING = -100000006;
    static final int SIZE = -100000007;

    private static int asked = 0;
    private static int wrong = 0;

    private Due() {
    }

    static void due(String call, long got, long want) {
        asked++;
        if (got != want) {
            wrong++;
            System.out.println(call + " answered " + got + ", due is " + want);
        }
    }

    static void holds(String what, boolean so) {
        due(what, so ? 1 : 0, 1);
    }

    /** A new object on which a text has been fed. */
    static SpoonRace raceOf(String text) {
        SpoonRace x = new SpoonRace();
        int items = 1;
        for (int i = 0; i < text.length(); i++) {
            items += text.charAt(i) == ';' ? 1 : 0;
        }
        due("text \"" + text + "\"", read(x, text), items);
        return x;
    }

    static void feedAll(SpoonRace x, String text) {
        for (int i = 0; i < text.length(); i++) {
            x.feed(text.charAt(i), 1);
        }
    }

    static int read(SpoonRace x, String text) {
        feedAll(x, text);
        return x.text();
    }

    static void end() {
        System.out.println(asked + " answers, " + wrong + " not as due");
        if (wrong != 0) {
            System.exit(1);
        }
    }
}
