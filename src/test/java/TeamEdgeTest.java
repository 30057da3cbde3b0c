/** The bounds that promises 31 to 37 name, each sentence by itself. */
public final class TeamEdgeTest {
    private static final String[] NOTHING = {};
    private static final String[] RICH = Script.RICH;
    private static final String[] FULL = Script.RICH_FULL;
    private static final String[] THREE = Script.times(3, "runner 5 4 1");
    private static final String[] SIX = Script.times(6, "runner 5 4 1");
    // Odds 11 on every yard, the most that one alone can have who is not shaken.
    private static final String[] RASH = {"read thistle 0 to 29;rusher arm 0 spoon 0 pace 6",
        "runner 3 0 0", "pace 1 0 29 6"};
    private static final long ALL_OF_8 = 110075314176L;

    public static void main(String[] args) {
        later();
        laterIsCut();
        team();
        leg();
        legsOfSeveral();
        legsEnd();
        gum();
        suspect();
        suspectTwice();
        rain();
        rainDraws();
        seed();
        Due.end();
    }

    /** Than the one with the greatest MEAN: 0 for himself. */
    private static void later() {
        String[] quicker = Script.plus(THREE, "pace 1 0 29 5", "pace 2 0 29 9");
        Script.bounds(quicker, "later ?", 0, 0, 2, 150);
        Script.beyond(RICH, "later ?", -1, 3);
        Script.beyond(FULL, "later ?", -1, 6);
        Script.beyond(NOTHING, "later ?", -1, 0, 1);
        Script.unchanged(Script.calls("runner 3 0 0"), "later 0", 0);
        Script.unchanged(RICH, "later 0", 0);
        Script.unchanged(SIX, "later 5", 0);
        // From YARD 0 on, not SHAKEN, wherever they are.
        Script.unchanged(Script.plus(quicker, "change 2 3 30", "change 0 5 3"), "later 2", 150);
        Script.unchanged(Script.plus(quicker, "change 0 3 30"), "later 2", 150);
        Script.unchanged(Script.plus(quicker, "steps 180"), "later 1", 30);
        Script.taken(Script.plus(SIX, "pace 5 0 29 3"), "later 0", 30);
        Script.taken(Script.plus(SIX, "pace 5 0 29 3"), "later 5", 0);
    }

    /** By 1000, cut. */
    private static void laterIsCut() {
        // Odds 4 on the last yard alone: four by 24 of 1000 PICK more than 240000.
        String[] two = {"runner 0 2 1", "runner 5 4 1", "ground 29 2"};
        int[][] picks = {{0, 0, 0}, {5, 833, 0}, {6, 1000, 1}, {11, 1833, 1}, {12, 2000, 2}};
        for (int[] p : picks) {
            String[] picked = Script.plus(two, "pick " + p[0]);
            Script.taken(picked, "mean 0 0 0", 240000 + p[1]);
            Script.taken(picked, "later 1", p[2]);
            Script.taken(picked, "later 0", 0);
        }
        // 85309 by 1000, though 393 less 307 is 86: the rest is of the difference.
        String[] rests = {"read child arm 1 pace 2;pick 18;slick 2;turn 27", "runner 0 0 0"};
        Script.taken(rests, "mean 0 0 0", 393000);
        Script.taken(rests, "mean 1 0 0", 307691);
        Script.taken(rests, "later 1", 85);
        // The greatest by one thousandth: 90000 less than 300001 is 210001.
        String[] near = {"read pick 86;thistle 22 to 24", "runner 2 9 1", "pace 0 0 29 7",
            "runner 3 8 2", "pace 1 0 29 1", "runner 6 7 2", "pace 2 0 29 7"};
        int[] means = {210001, 300000, 300001};
        int[] later = {90, 0, 0};
        for (int r = 0; r < 3; r++) {
            Script.taken(near, "mean " + r + " 0 0", means[r]);
            Script.taken(near, "later " + r, later[r]);
        }
        String[] far = {"read rusher arm 0 spoon 0 pace 6;thistle 0 to 29;pick 99;gum pace 9"};
        Script.taken(far, "mean 0 0 0", 1828165);
        Script.taken(far, "later 1", 1738);
    }

    /** BEYOND: set, or fewer than 3 in it. */
    private static void team() {
        Script.taken(THREE, "team 7", 240000);
        Script.unchanged(RICH, "team 7", new Script(RICH).ask("team 7"));
        Script.beyond(THREE, "team ?", 0, 1, 3, 4, 5, 6, 8, 11, 13, 14, 15, 63, 64, -1, -8, 7 - 16,
                7 - (1 << 30), 7 + (1 << 30), Integer.MIN_VALUE, Integer.MIN_VALUE + 7,
                Integer.MAX_VALUE);
        Script.beyond(RICH, "team ?", 6, 8, 15);
        Script.beyond(NOTHING, "team ?", 0, 7, 63, -1);
        Script.beyond(Script.times(2, "runner 5 4 1"), "team ?", 0, 3, 7);
        for (int set = 0; set < 64; set++) {
            if (Integer.bitCount(set) >= 3) {
                Script.taken(SIX, "team " + set, 240000);
            } else {
                Script.refused(Due.BEYOND, SIX, "team " + set);
            }
        }
        Script.beyond(FULL, "team ?", 64, 71, 127, -1);
        // Three unlike ones: the one quick on all legs runs one of them.
        Script.taken(Script.plus(SIX, "pace 4 0 29 9"), "team 63", 190000);
        Script.taken(Script.plus(SIX, "pace 4 0 29 9"), "team 47", 240000);
    }

    /** Leg 0 to 2 of such a set. */
    private static void leg() {
        Script.bounds(THREE, "leg 7 ?", 0, 0, 2, 2);
        Script.bounds(SIX, "leg 63 ?", 0, 0, 2, 2);
        Script.bounds(SIX, "leg 56 ?", 0, 3, 2, 5);
        Script.beyond(THREE, "leg ? 0", 0, 3, 5, 6, 8, 15, 64, -1, -9, Integer.MIN_VALUE,
                Integer.MAX_VALUE);
        Script.beyond(NOTHING, "leg ? 0", 0, 7, 63, -1);
        Script.beyond(FULL, "leg ? 2", 24, 64, 127, -1);
        Script.beyond(RICH, "leg 7 ?", -1, 3);
        Script.refused(Due.BEYOND, RICH, "leg 3 3");
        Script.unchanged(RICH, "leg 7 1", new Script(RICH).ask("leg 7 1"));
    }

    /** Of several orders the one with the least numbers first. */
    private static void legsOfSeveral() {
        int[][] ones = {{63, 0, 1, 2}, {62, 1, 2, 3}, {42, 1, 3, 5}, {44, 2, 3, 5}};
        for (int[] o : ones) {
            for (int i = 0; i < 3; i++) {
                Script.taken(SIX, "leg " + o[0] + " " + i, o[1 + i]);
            }
        }
        // 4 is quick on the last leg, on the middle one, on the first one.
        int[][] orders = {{20, 0, 1, 4}, {10, 0, 4, 1}, {0, 4, 0, 1}};
        for (int[] o : orders) {
            String[] quick = Script.plus(SIX, "pace 4 " + o[0] + " " + (o[0] + 9) + " 9");
            for (int i = 0; i < 3; i++) {
                Script.taken(quick, "leg 63 " + i, o[1 + i]);
            }
            Script.taken(quick, "team 63", 190000);
        }
        // 0 is quick on the last leg, and 5 on the first one.
        String[] back = Script.plus(SIX, "pace 0 20 29 9", "pace 5 0 9 9");
        int[] backLegs = {5, 1, 0};
        for (int i = 0; i < 3; i++) {
            Script.taken(back, "leg 63 " + i, backLegs[i]);
        }
        Script.taken(back, "team 63", 140000);
        // One thousandth less is enough.
        String[] near = {"read pick 1;thistle 0 to 27;slick 28 to 29", "runner 2 2 1",
            "pace 0 0 29 1", "runner 6 0 3", "pace 1 0 29 9", "runner 1 6 2", "pace 2 0 29 7"};
        Script.taken(near, "team 7", 225714);
        int[] nearLegs = {1, 2, 0};
        for (int i = 0; i < 3; i++) {
            Script.taken(near, "leg 7 " + i, nearLegs[i]);
        }
        // As quick on all: the first leg goes to the least number all the same.
        String[] all = Script.plus(SIX, "pace 4 0 29 9");
        int[] legs = {0, 1, 4};
        for (int i = 0; i < 3; i++) {
            Script.taken(all, "leg 63 " + i, legs[i]);
        }
    }

    /** YARDS 0 to 9, 10 to 19, 20 to 29; the end of a leg as if it were HOME; not SHAKEN at first. */
    private static void legsEnd() {
        int[] ends = {0, 9, 10, 19, 20, 29};
        for (int i = 0; i < ends.length; i++) {
            // Who is one tenth quicker on a yard runs its leg: 2 on the first or the second.
            String[] quick = Script.plus(THREE, "pace 2 " + ends[i] + " " + ends[i] + " 5");
            Script.taken(quick, "team 7", 239000);
            Script.taken(quick, "leg 7 " + i / 2, 2);
        }
        // A drop on the last yard of a leg costs PICK alone, and nobody is shaken as a leg begins.
        String[] weak = Script.plus(Script.times(3, "runner 0 4 0"), "pick 48");
        for (int end = 9; end <= 29; end += 10) {
            Script.taken(Script.plus(weak, "ground " + end + " 1"), "team 7", 240000 + 6000);
        }
        String[] shaken = Script.plus(weak, "change 0 5 3", "change 1 5 3", "change 2 5 3",
                "change 1 3 30");
        Script.taken(shaken, "team 7", 240000);
    }

    /** n 1 to 8, k 0 to n, what 0 or 1; BEYOND likewise. */
    private static void gum() {
        Script.bounds(RICH, "gum ? 0 1 0 0", 0, 24, 2, 24);
        Script.bounds(FULL, "gum ? 0 1 1 0", 0, 0, 5, 0);
        Script.beyond(NOTHING, "gum ? 0 1 0 0", -1, 0, 1);
        Script.bounds(RICH, "gum 1 ? 1 0 0", 0, 24, 29, 24);
        Script.bounds(RICH, "gum 1 ? 8 0 1", 0, ALL_OF_8, 22, ALL_OF_8);
        Script.bounds(RICH, "gum 1 0 ? 0 0", 1, 24, 8, ALL_OF_8);
        Script.bounds(RICH, "gum 1 0 ? 0 1", 1, 24, 8, ALL_OF_8);
        Script.bounds(RICH, "gum 1 22 ? 0 1", 1, 24, 8, ALL_OF_8);
        Script.bounds(RICH, "gum 1 23 ? 0 1", 1, 24, 7, ALL_OF_8 / 24);
        Script.bounds(RICH, "gum 1 29 ? 0 1", 1, 24, 1, 24);
        Script.bounds(RICH, "gum 1 0 8 ? 0", 0, ALL_OF_8, 8, 0);
        Script.bounds(RICH, "gum 1 0 1 ? 1", 0, 24, 1, 0);
        Script.bounds(RICH, "gum 0 4 1 1 ?", 0, 0, 1, 11);
        Script.refused(Due.BEYOND, RICH, "gum 1 0 0 0 1");
        Script.refused(Due.BEYOND, RICH, "gum 1 0 9 9 1");
        Script.refused(Due.BEYOND, RICH, "gum 1 30 0 0 0");
        Script.unchanged(RICH, "gum 0 4 1 1 0", 0);
        Script.unchanged(RICH, "gum 0 4 1 1 1", 11);
        String[] weak = {"runner 0 0 0"};
        Script.bounds(weak, "gum 0 0 8 ? 1", 0, 54875873536L, 8, 2 * 78125);
        for (int k = 0; k <= 8; k++) {
            Script.taken(weak, "gum 0 3 8 " + k + " 1", new Script(weak).ask("drops 0 3 8 " + k));
        }
    }

    /** n 1 to 8; NONE behind BEYOND. */
    private static void suspect() {
        Script.bounds(RASH, "suspect ? 0 2", 0, 0, 1, 0);
        Script.beyond(RICH, "suspect ? 0 1", -1, 3);
        Script.beyond(FULL, "suspect ? 0 1", -1, 6);
        Script.beyond(NOTHING, "suspect ? 0 1", -1, 0, 1);
        Script.bounds(RASH, "suspect 0 ? 2", 0, 0, 28, 0);
        Script.bounds(RASH, "suspect 0 ? 8", 0, 0, 22, 0);
        for (int n = 2; n <= 8; n++) {
            Script.taken(RASH, "suspect 0 0 " + n, 0);
            Script.taken(RASH, "suspect 0 " + (30 - n) + " " + n, 0);
            Script.refused(Due.BEYOND, RASH, "suspect 0 " + (31 - n) + " " + n);
        }
        Script.beyond(RASH, "suspect 0 0 ?", 0, 9);
        Script.beyond(RICH, "suspect 1 0 ?", -1, 0, 9, Integer.MIN_VALUE, Integer.MAX_VALUE);
        Script.beyond(RICH, "suspect 1 ? 1", -1, 30, Integer.MIN_VALUE, Integer.MAX_VALUE);
        Script.refused(Due.BEYOND, RICH, "suspect 1 23 8");
        Script.refused(Due.BEYOND, RICH, "suspect 1 29 2");
        Script.refused(Due.NONE, RICH, "suspect 1 22 8");
        Script.refused(Due.NONE, RICH, "suspect 1 29 1");
        Script.refused(Due.NONE, RICH, "suspect 1 0 1");
        Script.unchanged(RASH, "suspect 0 0 8", 0);
    }

    /** At least twice, and above 0. */
    private static void suspectTwice() {
        // 13 twice is above 24, and no one alone can have more odds than 11.
        Script.refused(Due.NONE, RASH, "suspect 0 0 1");
        Script.refused(Due.NONE, RASH, "suspect 0 29 1");
        // 16 times 18 is just half of 24 times 24, and 17 times 17 is one more.
        String[] half = {"runner 0 0 0", "pace 0 0 29 6", "ground 0 3"};
        Script.unchanged(half, "suspect 0 0 2", 0);
        String[] more = {"runner 3 0 0", "pace 0 0 29 6"};
        Script.taken(more, "clean 0 0 2", 289);
        Script.refused(Due.NONE, more, "suspect 0 0 2");
        // Neither ever drops: twice 0 is 0, which isn't above 0.
        Script.refused(Due.NONE, Script.calls("runner 0 9 5"), "suspect 0 0 8");
        Script.refused(Due.NONE, Script.calls("runner 5 0 0"), "suspect 0 0 8");
    }

    /** n 1 to 12: how many are GRASS then. */
    private static void rain() {
        Script.bounds(Script.calls("seed 7"), "rain ?", 1, 30, 12, 26);
        Script.bounds(NOTHING, "rain ?", 1, 29, 12, 21);
        Script.beyond(RICH, "rain ?", 0, 13, -1, Integer.MIN_VALUE, Integer.MAX_VALUE);
        Script.taken(Script.calls("seed 7", "rain 12"), "count 6", -203812881);
        Script.same("twelve, one by one", Script.calls("rain 12"), Script.times(12, "rain 1"));
        Script.taken(Script.calls("read bump 0 to 29", "seed 7"), "rain 1", 1);
        Script.taken(Script.calls("read bump 0 to 29", "seed 1"), "rain 1", 0);
    }

    /** The rest of a draw by 30, and of a draw by 5; the later draw stands. */
    private static void rainDraws() {
        int[][] draws = {{7, 7, 0}, {1, 14, 2}, {-1, 7, 3}, {Integer.MIN_VALUE, 26, 0},
            {Integer.MAX_VALUE, 29, 1}, {0, 18, 3}};
        for (int[] d : draws) {
            String[] one = Script.calls("read bump 0 to 29; slick " + d[1], "seed " + d[0]);
            Script.taken(Script.plus(one, "rain 1"), "ground " + d[1] + " 0", d[2]);
            Script.same("that yard alone", Script.plus(one, "ground " + d[1] + " " + d[2],
                    "seed 1"), Script.plus(one, "rain 1", "seed 1"));
        }
        // From 0 on: 18 3, 15 3, 18 3, 18 1.
        Script.taken(Script.calls("seed 0", "rain 3"), "ground 18 0", 3);
        Script.taken(Script.calls("seed 0", "rain 4"), "ground 18 0", 1);
        Script.same("four yards", Script.calls("ground 18 1", "ground 15 3"),
                Script.calls("seed 0", "rain 4", "seed 1"));
    }

    /** z becomes v, whatever it is: what it was. */
    private static void seed() {
        int[] values = {0, -1, Integer.MIN_VALUE, Integer.MAX_VALUE, Due.BEYOND, Due.SIZE,
            -100000000};
        for (int v : values) {
            Script.taken(NOTHING, "seed " + v, 1);
            Script.taken(Script.calls("seed " + v), "count 6", v);
            Script.taken(Script.calls("seed " + v), "seed 5", v);
        }
        Script.same("nothing else", RICH, Script.plus(RICH, "seed 9",
                "seed " + new Script(RICH).ask("count 6")));
    }
}
