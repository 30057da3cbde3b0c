import java.math.BigInteger;

/** The bounds that promises 13 to 19 and point 2 of the terms name, each sentence by itself. */
public final class RaceEdgeTest {
    private static final String[] NOTHING = {};
    private static final String[] RICH = Script.RICH;
    private static final String[] FULL = Script.RICH_FULL;
    // Nobody who has gum drops: 8 tenths for each yard at pace 4, and one after the other.
    private static final String[] SIX = Script.times(6, "runner 5 4 1");
    private static final String[] WEAK = {"runner 0 0 0"};
    private static final String[] RICH_HOME = Script.plus(RICH, "change 0 3 30", "change 2 3 30");

    public static void main(String[] args) {
        next();
        steps();
        stepsEndAtHome();
        drawsWrapAround();
        dropsBelowOdds();
        shaken();
        start();
        ahead();
        winner();
        place();
        wins();
        Due.end();
    }

    /** NONE: all are HOME, or there is none. Of several with least TIME the least number. */
    private static void next() {
        Script.refused(Due.NONE, NOTHING, "next");
        Script.refused(Due.NONE, RICH_HOME, "next");
        Script.refused(Due.NONE, Script.plus(SIX, "steps 180"), "next");
        Script.refused(Due.NONE, Script.plus(WEAK, "change 0 3 30"), "next");
        Script.unchanged(Script.plus(WEAK, "change 0 3 29"), "next", 0);
        Script.taken(Script.plus(SIX, "steps 179"), "next", 5);
        for (int n = 1; n <= 12; n++) {
            Script.taken(Script.plus(SIX, "steps " + n), "next", n % 6);
        }
        // One who is HOME runs no more, whatever his time.
        Script.taken(Script.plus(SIX, "change 0 3 30"), "next", 1);
        Script.taken(Script.plus(SIX, "steps 3", "change 3 3 30", "change 4 3 30"), "next", 5);
        Script.taken(Script.plus(SIX, "steps 3", "change 3 3 30", "change 4 3 30", "change 5 3 30"),
                "next", 0);
    }

    /** n STEPS, 1 to 180. */
    private static void steps() {
        Script.bounds(RICH, "steps ?", 1, new Script(RICH).ask("ahead 1 1"), 180,
                new Script(RICH).ask("ahead 180 1"));
        Script.bounds(SIX, "steps ?", 1, 0, 180, 0);
        Script.bounds(NOTHING, "steps ?", 1, 0, 180, 0);
        Script.bounds(RICH_HOME, "steps ?", 1, 0, 180, 0);
        Script.taken(Script.plus(SIX, "steps 1"), "of 0 3", 1);
        Script.taken(Script.plus(SIX, "steps 1"), "of 1 3", 0);
        Script.taken(Script.plus(SIX, "steps 1", "steps 1"), "of 1 3", 1);
    }

    /** As long as any isn't HOME. */
    private static void stepsEndAtHome() {
        Script.unchanged(NOTHING, "steps 180", 0);
        Script.unchanged(RICH_HOME, "steps 1", 0);
        Script.unchanged(RICH_HOME, "steps 180", 0);
        Script.taken(Script.plus(SIX, "steps 179"), "count 1", 5);
        Script.taken(Script.plus(SIX, "steps 179"), "of 5 3", 29);
        Script.taken(Script.plus(SIX, "steps 180"), "count 1", 6);
        Script.taken(Script.plus(SIX, "steps 180"), "of 5 3", 30);
        Script.taken(Script.plus(SIX, "steps 180"), "of 5 4", 240);
        Script.same("those that are HOME stay", Script.plus(SIX, "steps 180"),
                Script.plus(SIX, "steps 180", "steps 180"));
        Script.same("29 and 1", Script.plus(WEAK, "steps 29", "steps 1"),
                Script.plus(WEAK, "steps 180"));
        Script.same("180 and as many by one", Script.plus(WEAK, Script.times(30, "steps 1")),
                Script.plus(WEAK, "steps 30"));
        // One who was put back has his whole way again.
        Script.taken(Script.plus(SIX, "steps 180", "change 2 3 0", "steps 180"), "of 2 4", 480);
    }

    private static int behind(int z) {
        return BigInteger.valueOf(z).multiply(BigInteger.valueOf(1103515245L))
                .add(BigInteger.valueOf(12345)).intValue();
    }

    /** The rest by 24 of the draw that z gives. */
    private static int rest(int z) {
        return (int) ((behind(z) & 0xffffffffL) / 256 % 24);
    }

    /** z * 1103515245 + 12345, an int; what a draw gives is never below 0; no draw without ODDS. */
    private static void drawsWrapAround() {
        int[] zs = {0, 1, -1, 2, -2, 77, Integer.MAX_VALUE, Integer.MAX_VALUE - 1,
            Integer.MIN_VALUE, Integer.MIN_VALUE + 1, 1 << 30, -(1 << 30), 12345, -1103515245};
        boolean wasBelow = false;
        for (int z : zs) {
            String[] seeded = Script.plus(WEAK, "seed " + z);
            Script.taken(seeded, "steps 1", rest(z) < 2 ? 1 : 0);
            Script.taken(Script.plus(seeded, "steps 1"), "count 6", behind(z));
            Script.taken(Script.plus(seeded, "steps 3"), "count 6", behind(behind(behind(z))));
            Script.taken(Script.plus(SIX, "seed " + z, "steps 180"), "count 6", z);
            wasBelow |= behind(z) < 0;
        }
        Due.holds("one of them is below 0", wasBelow);
        // Odds are 0 with holds 2, and 1 with holds 1.
        Script.taken(Script.calls("runner 0 4 0", "steps 1"), "count 6", 1);
        Script.taken(Script.calls("runner 0 3 0", "steps 1"), "count 6", behind(1));
        // Alone 0, and beside another 1.
        Script.taken(Script.calls("runner 0 4 0", "runner 5 9 5", "steps 1"), "count 6", behind(1));
    }

    /** He drops if the rest is below ODDS, and doesn't if it is as much. */
    private static void dropsBelowOdds() {
        int[] seedOf = new int[24];
        for (int z = 100000; z > 0; z--) {
            seedOf[rest(z)] = z;
        }
        // Odds 2, 5 shaken, 7 on a thistle with another beside, 19 at most.
        String[][] setups = {WEAK, Script.plus(WEAK, "change 0 5 1"),
            Script.plus(WEAK, "runner 5 9 5", "ground 0 2"),
            Script.plus(Script.times(1, "runner 3 0 0"), "runner 0 0 0", "runner 0 0 0",
                "runner 0 0 0", "runner 0 0 0", "runner 0 0 0", "ground 0 2", "pace 0 0 0 6",
                "change 0 5 3")};
        int[] odds = {2, 5, 7, 19};
        for (int i = 0; i < setups.length; i++) {
            Script.taken(setups[i], "now 0", odds[i]);
            for (int rest = 0; rest < 24; rest++) {
                int drops = rest < odds[i] ? 1 : 0;
                String[] seeded = Script.plus(setups[i], "seed " + seedOf[rest]);
                Script.taken(seeded, "steps 1", drops);
                Script.taken(Script.plus(seeded, "steps 1"), "of 0 6", drops);
                Script.taken(Script.plus(seeded, "pick 0", "steps 1"), "of 0 4",
                        new Script(setups[i]).ask("told 0 0 " + (i == 3 ? 6 : 4)));
                Script.taken(Script.plus(seeded, "pick 99", "steps 1"), "of 0 4",
                        new Script(setups[i]).ask("told 0 0 " + (i == 3 ? 6 : 4)) + 99 * drops);
            }
        }
    }

    /** A drop: SHAKEN 3; else one less, 0 at least. */
    private static void shaken() {
        int drop = 0;
        int none = 0;
        for (int z = 1000; z > 0; z--) {
            drop = rest(z) == 0 ? z : drop;
            none = rest(z) == 23 ? z : none;
        }
        for (int s = 0; s <= 3; s++) {
            String[] one = Script.plus(WEAK, "change 0 5 " + s);
            Script.taken(Script.plus(one, "seed " + drop, "steps 1"), "of 0 5", 3);
            Script.taken(Script.plus(one, "seed " + none, "steps 1"), "of 0 5", Math.max(0, s - 1));
            Script.taken(Script.calls("runner 5 4 1", "change 0 5 " + s, "steps 1"), "of 0 5",
                    Math.max(0, s - 1));
            Script.taken(Script.calls("runner 5 4 1", "change 0 5 " + s, "change 0 3 29", "steps 9"),
                    "of 0 5", Math.max(0, s - 1));
        }
    }

    /** YARD, TIME, SHAKEN, DROPS of all are 0: how many were HOME. */
    private static void start() {
        Script.unchanged(NOTHING, "start", 0);
        Script.unchanged(SIX, "start", 0);
        Script.taken(Script.plus(SIX, "steps 179"), "start", 5);
        Script.taken(Script.plus(SIX, "steps 180"), "start", 6);
        Script.taken(Script.plus(WEAK, "change 0 3 29"), "start", 0);
        Script.taken(Script.plus(WEAK, "change 0 3 30"), "start", 1);
        Script.taken(RICH, "start", 1);
        Script.same("all is 0, and nothing else changes", WEAK, Script.plus(WEAK, "seed 5",
                "steps 30", "change 0 5 3", "start", "seed 1"));
        Script.same("paces, the field and spots stay", Script.plus(RICH, "start"),
                Script.plus(RICH, "steps 20", "change 1 5 2", "start",
                "seed " + new Script(RICH).ask("count 6")));
        for (int r = 0; r < 3; r++) {
            for (int what = 3; what <= 6; what++) {
                Script.taken(Script.plus(RICH, "start"), "of " + r + " " + what, 0);
            }
        }
    }

    /** n 0 to 180; what 0 to 2, or 3 and a RUNNER: no such RUNNER is BEYOND, too. */
    private static void ahead() {
        Script.bounds(SIX, "ahead ? 0", 0, 0, 180, 63);
        Script.bounds(RICH, "ahead ? 0", 0, 2, 180, 7);
        Script.bounds(SIX, "ahead 180 ?", 0, 63, 8, 240);
        Script.bounds(FULL, "ahead 180 ?", 0, 63, 8, new Script(Script.plus(FULL, "steps 180"))
                .ask("of 5 4"));
        Script.bounds(RICH, "ahead 0 ?", 0, 2, 5, new Script(RICH).ask("of 2 4"));
        Script.bounds(NOTHING, "ahead 0 ?", 0, 0, 2, -1);
        Script.bounds(WEAK, "ahead 0 ?", 0, 0, 3, 0);
        Script.refused(Due.BEYOND, SIX, "ahead 181 9");
        Script.taken(SIX, "ahead 174 0", 0);
        Script.taken(SIX, "ahead 175 0", 1);
        Script.taken(SIX, "ahead 179 0", 31);
        Script.taken(SIX, "ahead 179 2", 5);
        Script.unchanged(SIX, "ahead 180 2", -1);
        Script.unchanged(NOTHING, "ahead 180 2", -1);
        Script.unchanged(NOTHING, "ahead 180 0", 0);
        Script.unchanged(RICH_HOME, "ahead 1 1", 0);
        Script.unchanged(RICH_HOME, "ahead 0 2", -1);
        // Drops in them, not those of before.
        String[] dropped = Script.plus(WEAK, "pace 0 0 29 6", "steps 20");
        Due.holds("he dropped", new Script(dropped).ask("of 0 6") > 0);
        Script.taken(dropped, "ahead 0 1", 0);
        Script.taken(Script.plus(dropped, "steps 10"), "ahead 180 1", 0);
        for (int n = 1; n <= 60; n++) {
            Script went = new Script(RICH);
            long drops = went.ask("steps " + n);
            Script.taken(RICH, "ahead " + n + " 1", drops);
            Script.taken(RICH, "ahead " + n + " 3", went.ask("of 0 4"));
        }
        for (int what = 0; what <= 5; what++) {
            Script.unchanged(RICH, "ahead 25 " + what, new Script(RICH).ask("ahead 25 " + what));
        }
    }

    /** NONE: there is none. Least TIME when all are HOME; of several the least number. */
    private static void winner() {
        Script.refused(Due.NONE, NOTHING, "winner");
        Script.refused(Due.NONE, Script.calls("image", "runner 0 4 1", "undo"), "winner");
        Script.unchanged(WEAK, "winner", 0);
        Script.unchanged(SIX, "winner", 0);
        Script.unchanged(RICH, "winner", new Script(RICH).ask("winner"));
        Script.unchanged(Script.plus(SIX, "steps 180"), "winner", 0);
        // One tenth less of 240 is enough, and nothing less is not.
        Script.taken(Script.plus(SIX, "pace 5 29 29 5"), "winner", 5);
        Script.taken(Script.plus(SIX, "pace 5 29 29 5", "pace 3 0 0 5"), "winner", 3);
        Script.taken(Script.plus(SIX, "pace 0 29 29 3"), "winner", 1);
        Script.taken(Script.plus(SIX, "change 4 3 30"), "winner", 4);
        Script.taken(Script.plus(SIX, "change 4 3 30", "change 3 3 30"), "winner", 3);
    }

    /** Those with less TIME, or as much and a lesser number, are ahead of him. */
    private static void place() {
        Script.bounds(SIX, "place ?", 0, 1, 5, 6);
        Script.beyond(NOTHING, "place ?", -1, 0, 1);
        Script.beyond(RICH, "place ?", -1, 3);
        Script.unchanged(WEAK, "place 0", 1);
        Script.unchanged(RICH, "place 2", new Script(RICH).ask("place 2"));
        String[] last = Script.plus(SIX, "pace 5 29 29 5");
        Script.taken(last, "place 5", 1);
        Script.taken(last, "place 0", 2);
        Script.taken(last, "place 4", 6);
        Script.taken(Script.plus(SIX, "pace 0 0 0 3"), "place 0", 6);
        Script.taken(Script.plus(SIX, "pace 0 0 0 3"), "place 1", 1);
        Script.taken(Script.plus(SIX, "steps 180"), "place 5", 6);
    }

    /** 1 to 10 races, each with start() and the draws as the one ahead left them; all put back but z. */
    private static void wins() {
        Script.bounds(SIX, "wins ? 10", 0, 10, 5, 0);
        Script.bounds(SIX, "wins 0 ?", 1, 1, 10, 10);
        Script.beyond(RICH, "wins ? 1", -1, 3);
        Script.beyond(RICH, "wins 0 ?", 0, 11);
        Script.beyond(NOTHING, "wins ? 1", -1, 0, 1);
        Script.unchanged(Script.plus(SIX, "steps 100", "change 3 3 30"), "wins 1 10", 0);
        String[] close = {"runner 0 0 1", "runner 3 0 1", "pace 0 0 29 6", "pace 1 0 29 8",
            "ground 3 4", "ground 9 2", "steps 20", "image"};
        for (int n = 1; n <= 10; n++) {
            Script other = new Script(close);
            long won = 0;
            for (int i = 0; i < n; i++) {
                other.ask("start");
                other.ask("steps 180");
                won += other.ask("winner") == 0 ? 1 : 0;
            }
            Script.taken(close, "wins 0 " + n, won);
            Script.taken(close, "wins 1 " + n, n - won);
            Script.same("all is put back but z", Script.plus(close, "seed " + other.ask("count 6")),
                    Script.plus(close, "wins 0 " + n));
        }
        long all = new Script(close).ask("wins 0 10");
        Due.holds("both win some of ten", all > 0 && all < 10);
    }
}
