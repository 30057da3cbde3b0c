/** The bounds that promises 20 to 30 name, each sentence by itself. */
public final class AloneEdgeTest {
    private static final String[] NOTHING = {};
    private static final String[] RICH = Script.RICH;
    private static final String[] FULL = Script.RICH_FULL;
    // Odds 2 at pace 4 on grass, and 5 when shaken.
    private static final String[] WEAK = {"runner 0 0 0"};
    // No odds at all.
    private static final String[] GUMS = Script.times(3, "runner 5 4 1");
    private static final long ALL_OF_10 = 63403380965376L;
    private static final long ALL_OF_12 = 36520347436056576L;

    public static void main(String[] args) {
        clean();
        drops();
        dropsShake();
        mean();
        least();
        best();
        train();
        even();
        costs();
        worst();
        spoon();
        armFor();
        armForNone();
        askedAgain();
        whereverHeIs();
        Due.end();
    }

    /** On n YARDS, 0 to 12, from one on; BEYOND: also beyond YARD 29. */
    private static void clean() {
        Script.bounds(RICH, "clean ? 0 0", 0, 1, 2, 1);
        Script.bounds(FULL, "clean ? 0 0", 0, 1, 5, 1);
        Script.beyond(NOTHING, "clean ? 0 0", -1, 0, 1);
        Script.bounds(RICH, "clean 1 ? 0", 0, 1, 29, 1);
        Script.bounds(RICH, "clean 1 ? 1", 0, 24, 29, 24);
        Script.bounds(RICH, "clean 1 ? 2", 0, 576, 28, 576);
        Script.bounds(RICH, "clean 1 ? 12", 0, ALL_OF_12, 18, ALL_OF_12);
        Script.bounds(RICH, "clean 1 0 ?", 0, 1, 12, ALL_OF_12);
        Script.bounds(RICH, "clean 1 18 ?", 0, 1, 12, ALL_OF_12);
        Script.bounds(RICH, "clean 1 19 ?", 0, 1, 11, ALL_OF_12 / 24);
        Script.bounds(RICH, "clean 1 29 ?", 0, 1, 1, 24);
        Script.refused(Due.BEYOND, RICH, "clean 1 -1 2");
        Script.refused(Due.BEYOND, RICH, "clean 1 30 -1");
        Script.refused(Due.BEYOND, RICH, "clean 1 31 -1");
        Script.unchanged(RICH, "clean 0 4 1", 24 - 11);
        // Not SHAKEN and alone, whatever he is.
        Script.taken(WEAK, "clean 0 0 12", 12855002631049216L);
        Script.taken(Script.plus(WEAK, "change 0 5 3", "runner 0 0 0"), "clean 0 0 3", 10648);
        Script.taken(Script.plus(WEAK, "change 0 3 30"), "clean 0 29 1", 22);
        // The yards of the row and no others.
        String[] edges = Script.plus(WEAK, "ground 4 2", "ground 8 2");
        Script.taken(edges, "clean 0 5 3", 22 * 22 * 22);
        Script.taken(edges, "clean 0 5 4", 22 * 22 * 22 * 18);
        Script.taken(edges, "clean 0 4 4", 22 * 22 * 22 * 18);
    }

    /** Just k times, 0 to n, on n YARDS, 0 to 10; BEYOND likewise. */
    private static void drops() {
        Script.bounds(RICH, "drops ? 0 0 0", 0, 1, 2, 1);
        Script.bounds(FULL, "drops ? 0 0 0", 0, 1, 5, 1);
        Script.beyond(NOTHING, "drops ? 0 0 0", -1, 0, 1);
        Script.bounds(RICH, "drops 1 ? 0 0", 0, 1, 29, 1);
        Script.bounds(RICH, "drops 1 ? 1 0", 0, 24, 29, 24);
        Script.bounds(RICH, "drops 1 ? 10 0", 0, ALL_OF_10, 20, ALL_OF_10);
        Script.bounds(RICH, "drops 1 0 ? 0", 0, 1, 10, ALL_OF_10);
        Script.bounds(RICH, "drops 1 20 ? 0", 0, 1, 10, ALL_OF_10);
        Script.bounds(RICH, "drops 1 21 ? 0", 0, 1, 9, ALL_OF_10 / 24);
        Script.bounds(RICH, "drops 1 29 ? 0", 0, 1, 1, 24);
        Script.bounds(RICH, "drops 1 0 10 ?", 0, ALL_OF_10, 10, 0);
        Script.bounds(WEAK, "drops 0 0 10 ?", 0, 26559922791424L, 10, 2L * 1953125);
        Script.bounds(WEAK, "drops 0 0 1 ?", 0, 22, 1, 2);
        Script.bounds(WEAK, "drops 0 0 0 ?", 0, 1, 0, 1);
        Script.bounds(WEAK, "drops 0 29 0 ?", 0, 1, 0, 1);
        // k as n is too great for both.
        Script.refused(Due.BEYOND, RICH, "drops 1 0 11 11");
        Script.refused(Due.BEYOND, RICH, "drops 1 0 -1 -1");
        Script.refused(Due.BEYOND, RICH, "drops 1 0 -1 0");
        Script.unchanged(RICH, "drops 0 4 1 1", 11);
        Script.taken(Script.plus(WEAK, "change 0 5 3", "runner 0 0 0"), "drops 0 0 1 1", 2);
    }

    /** SHAKEN for three YARDS behind a drop, and no fourth. */
    private static void dropsShake() {
        Script.taken(WEAK, "drops 0 0 2 1", 2 * (19 + 22));
        Script.taken(WEAK, "drops 0 0 3 1", 2 * (19 * 19 + 22 * 19 + 22 * 22));
        Script.taken(WEAK, "drops 0 0 4 1", 2 * (19 * 19 * 19 + 22 * 19 * 19 + 22 * 22 * 19
                + 22 * 22 * 22));
        Script.taken(WEAK, "drops 0 0 5 1", 2 * (19 * 19 * 19 * 22 + 22 * 19 * 19 * 19
                + 22 * 22 * 19 * 19 + 22 * 22 * 22 * 19 + 22 * 22 * 22 * 22));
        // No odds but on a bump: behind it he drops only where he is SHAKEN yet.
        String[] bumps = {"runner 0 4 0", "ground 0 1"};
        Script.taken(bumps, "drops 0 0 4 2", 3 * (3 * 21 * 21 + 21 * 3 * 21 + 21 * 21 * 3));
        Script.taken(bumps, "drops 0 1 4 1", 0);
        Script.taken(bumps, "drops 0 1 4 0", 24 * 24 * 24 * 24);
        // A second drop shakes for three again.
        Script.taken(bumps, "drops 0 0 3 3", 3 * 3 * 3);
        Script.taken(bumps, "drops 0 0 5 1", 3 * 21 * 21 * 21 * 24);
    }

    /** From a YARD on (0 to 30), SHAKEN 0 to 3; 0 HOME. */
    private static void mean() {
        Script.bounds(RICH, "mean ? 30 0", 0, 0, 2, 0);
        Script.bounds(FULL, "mean ? 30 3", 0, 0, 5, 0);
        Script.beyond(NOTHING, "mean ? 30 0", -1, 0, 1);
        Script.bounds(RICH, "mean 1 ? 0", 0, 212000, 30, 0);
        Script.bounds(RICH, "mean 1 0 ?", 0, 212000, 3, 212000);
        Script.bounds(RICH, "mean 1 30 ?", 0, 0, 3, 0);
        Script.refused(Due.BEYOND, RICH, "mean 1 31 4");
        Script.unchanged(RICH, "mean 1 29 3", 8000);
        // SHAKEN for as many yards as told: 8000, and 5 by 24 of 25000 or 2 by 24, which is cut.
        Script.taken(WEAK, "mean 0 29 0", 8000 + 2083);
        Script.taken(WEAK, "mean 0 29 1", 8000 + 5208);
        Script.taken(WEAK, "mean 0 28 0", 20426);
        Script.taken(WEAK, "mean 0 28 1", 23942);
        Script.taken(WEAK, "mean 0 28 2", 26416);
        Script.taken(WEAK, "mean 0 28 3", 26416);
        Script.taken(Script.plus(WEAK, "pick 0"), "mean 0 0 3", 240000);
        Script.taken(Script.plus(WEAK, "pick 99"), "mean 0 29 0", 8000 + 8250);
        Script.taken(Script.plus(WEAK, "change 0 3 30", "runner 0 0 0"), "mean 0 29 0", 10083);
    }

    /** LEAST likewise. */
    private static void least() {
        Script.bounds(RICH, "least ? 30 0", 0, 0, 2, 0);
        Script.bounds(FULL, "least ? 30 3", 0, 0, 5, 0);
        Script.beyond(NOTHING, "least ? 30 0", -1, 0, 1);
        Script.bounds(RICH, "least 1 ? 0", 0, 90000, 30, 0);
        Script.bounds(RICH, "least 1 0 ?", 0, 90000, 3, 90000);
        Script.bounds(RICH, "least 1 30 ?", 0, 0, 3, 0);
        Script.refused(Due.BEYOND, RICH, "least 1 31 4");
        Script.unchanged(RICH, "least 1 29 3", 3000);
        Script.taken(WEAK, "least 0 29 0", 6125);
        Script.taken(WEAK, "least 0 29 1", 9250);
        // Paces as they are count not.
        Script.taken(Script.plus(WEAK, "pace 0 0 29 6"), "least 0 29 0", 6125);
        Script.taken(Script.plus(WEAK, "pick 0"), "least 0 0 3", 90000);
        Script.taken(Script.plus(WEAK, "pick 99"), "least 0 29 0", 10000 + 4125);
    }

    /** YARD 0 to 29; of several the least PACE. */
    private static void best() {
        Script.bounds(RICH, "best ? 29 0", 0, 9, 2, 9);
        Script.bounds(FULL, "best ? 29 0", 0, 9, 5, 9);
        Script.beyond(NOTHING, "best ? 29 0", -1, 0, 1);
        Script.bounds(RICH, "best 1 ? 0", 0, 9, 29, 9);
        Script.bounds(RICH, "best 1 0 ?", 0, 9, 3, 9);
        Script.refused(Due.BEYOND, RICH, "best 1 30 3");
        Script.unchanged(RICH, "best 1 29 3", 9);
        // 2: 10000 and one by 24; 9: 3000 and three by 24 of PICK; alike with 84.
        Script.taken(Script.plus(WEAK, "pick 83"), "best 0 29 0", 9);
        Script.taken(Script.plus(WEAK, "pick 84"), "best 0 29 0", 2);
        Script.taken(Script.plus(WEAK, "pick 85"), "best 0 29 0", 2);
        Script.taken(Script.plus(WEAK, "pick 84"), "least 0 29 0", 13500);
        // One thousandth less is enough: 98044 at pace 2, 98043 at pace 9.
        String[] near = {"read child arm 5 spoon 2;pick 76;bump 5 to 29"};
        Script.taken(near, "least 0 25 3", 98043);
        Script.taken(near, "best 0 25 3", 9);
        // By LEAST behind it, not by MEAN: at 28 with 83 both s count.
        Script.taken(Script.plus(WEAK, "pick 83"), "best 0 28 0", 2);
    }

    /** How many were otherwise, 0 to 30. */
    private static void train() {
        Script.bounds(GUMS, "train ?", 0, 30, 2, 30);
        Script.beyond(RICH, "train ?", -1, 3);
        Script.beyond(FULL, "train ?", -1, 6);
        Script.beyond(NOTHING, "train ?", -1, 0, 1);
        Script.unchanged(Script.plus(GUMS, "train 1"), "train 1", 0);
        Script.taken(Script.plus(GUMS, "pace 2 29 29 9"), "train 2", 29);
        Script.taken(Script.plus(GUMS, "train 2", "pace 2 0 0 8"), "train 2", 1);
        Script.same("all at 9, and nothing else", Script.plus(GUMS, "pace 1 0 29 9"),
                Script.plus(GUMS, "train 1"));
        // By LEAST (y, 0), though he is SHAKEN now.
        String[] weak = Script.plus(WEAK, "pick 83", "change 0 5 3");
        for (int y = 0; y < 30; y++) {
            Script.taken(Script.plus(weak, "train 0"), "paceOf 0 " + y,
                    new Script(weak).ask("best 0 " + y + " 0"));
        }
        Script.taken(Script.plus(weak, "train 0"), "paceOf 0 29", 9);
        Script.taken(Script.plus(weak, "train 0"), "paceOf 0 28", 2);
        // No odds at pace 9 with HOLDS 3, but SHAKEN: 3 by 24 of 99000, and 1 by 24 at pace 2.
        String[] calm = {"runner 0 6 0", "pick 99", "change 0 5 3"};
        Script.taken(calm, "best 0 29 0", 9);
        for (int s = 1; s <= 3; s++) {
            Script.taken(calm, "best 0 29 " + s, 2);
        }
        Script.taken(calm, "train 0", 30);
        Script.taken(Script.plus(calm, "train 0"), "paceOf 0 29", 9);
        Script.taken(Script.plus(calm, "train 0"), "paceOf 0 0", 9);
    }

    /** The one PACE, 1 to 9, for all YARDS; of several the least. */
    private static void even() {
        Script.bounds(GUMS, "even ?", 0, 9, 2, 9);
        Script.beyond(RICH, "even ?", -1, 3);
        Script.beyond(FULL, "even ?", -1, 6);
        Script.beyond(NOTHING, "even ?", -1, 0, 1);
        Script.unchanged(RICH, "even 1", 9);
        Script.unchanged(Script.plus(WEAK, "pick 99"), "even 0", 2);
        Script.unchanged(Script.plus(WEAK, "pick 0"), "even 0", 9);
        String[] alike = Script.plus(WEAK, "read pick 66; bump 10 to 29");
        long mean = new Script(Script.plus(alike, "pace 0 0 29 9")).ask("mean 0 0 0");
        Script.taken(Script.plus(alike, "pace 0 0 29 2"), "mean 0 0 0", mean);
        Script.taken(alike, "even 0", 2);
        // One thousandth less is enough.
        String[] near = {"read runner arm 2;pick 86;slick 22 to 26;slick 28"};
        Script.taken(Script.plus(near, "pace 0 0 29 4"), "mean 0 0 0", 326518);
        Script.taken(Script.plus(near, "pace 0 0 29 9"), "mean 0 0 0", 326517);
        Script.taken(near, "even 0", 9);
    }

    /** A YARD 0 to 29; behind the last there is nothing but PICK. */
    private static void costs() {
        Script.bounds(RICH, "costs ? 29", 0, 40000, 2, 40000);
        Script.bounds(FULL, "costs ? 29", 0, 40000, 5, 40000);
        Script.beyond(NOTHING, "costs ? 29", -1, 0, 1);
        Script.bounds(RICH, "costs 1 ?", 0, 40000, 29, 40000);
        Script.taken(Script.plus(WEAK, "pick 0"), "costs 0 0", 0);
        Script.taken(Script.plus(WEAK, "pick 99"), "costs 0 29", 99000);
        Script.unchanged(WEAK, "costs 0 28", 25000 + 13208 - 10083);
        Script.unchanged(WEAK, "costs 0 27", 25000 + 26416 - 20426);
        // With three yards behind it, on all of which he is SHAKEN: 37665 were it for two.
        Script.taken(WEAK, "mean 0 27 2", 37665);
        Script.unchanged(WEAK, "costs 0 26", 25000 + 39624 - 31008);
    }

    /** The YARD on which, were it GRASS, MEAN would be least; of several the least number. */
    private static void worst() {
        Script.bounds(GUMS, "worst ?", 0, 0, 2, 0);
        Script.beyond(RICH, "worst ?", -1, 3);
        Script.beyond(FULL, "worst ?", -1, 6);
        Script.beyond(NOTHING, "worst ?", -1, 0, 1);
        Script.unchanged(WEAK, "worst 0", 0);
        Script.unchanged(RICH, "worst 1", 0);
        Script.unchanged(Script.plus(WEAK, "ground 29 3"), "worst 0", 29);
        Script.unchanged(Script.plus(WEAK, "ground 0 3"), "worst 0", 0);
        Script.unchanged(Script.plus(WEAK, "ground 1 3"), "worst 0", 1);
        // Odds 1 on a thistle and no others, shaken neither: 2000 each.
        String[] two = {"runner 0 8 1", "pick 48", "ground 20 2", "ground 7 2"};
        Script.taken(two, "mean 0 0 0", 244000);
        Script.taken(two, "worst 0", 7);
        Script.taken(Script.plus(two, "ground 29 2"), "worst 0", 7);
        Script.taken(Script.plus(two, "ground 7 0"), "worst 0", 20);
        // One thousandth less is enough.
        String[] near = {"read steady arm 0 pace 3;pick 78;slick 12 to 29"};
        long mean = new Script(Script.plus(near, "ground 19 0")).ask("mean 0 0 0");
        Script.taken(Script.plus(near, "ground 20 0"), "mean 0 0 0", mean - 1);
        Script.taken(near, "worst 0", 20);
        // A bump makes no odds, so it is as good as grass.
        Script.taken(Script.calls("runner 0 8 1", "ground 3 1"), "worst 0", 0);
    }

    /** SPOON 0 to 5 with what it weighs, 15000 for each; of several the least. */
    private static void spoon() {
        Script.bounds(GUMS, "spoon ?", 0, 0, 2, 0);
        Script.beyond(RICH, "spoon ?", -1, 3);
        Script.beyond(FULL, "spoon ?", -1, 6);
        Script.beyond(NOTHING, "spoon ?", -1, 0, 1);
        Script.unchanged(RICH, "spoon 1", 0);
        Script.unchanged(Script.calls("read thistle 0 to 29;pick 99;looker pace 6"), "spoon 0", 5);
        // With spoon 0 odds are 2 on eight thistles, with 1 they are 1, with 2 none.
        String[] two = {"runner 0 8 1", "ground 0 2", "ground 4 2", "ground 8 2", "ground 12 2",
            "ground 16 2", "ground 20 2", "ground 24 2", "ground 28 2"};
        Script.taken(Script.plus(two, "pick 45"), "mean 0 0 0", 255000);
        Script.taken(Script.plus(two, "pick 45"), "spoon 0", 1);
        Script.taken(Script.plus(two, "pick 46"), "spoon 0", 2);
        Script.taken(Script.plus(two, "pick 0"), "spoon 0", 0);
        // One thousandth more than a spoon weighs.
        String[] near = {"read looker arm 2 spoon 0 pace 9;pick 31;bump 16 to 23"};
        Script.taken(Script.plus(near, "change 0 2 1"), "mean 0 0 0",
                new Script(near).ask("mean 0 0 0") - 15001);
        Script.taken(near, "spoon 0", 1);
    }

    /** The least ARM, 0 to 9, with which MEAN is v or less; v 0 to 9999999. */
    private static void armFor() {
        Script.bounds(GUMS, "armFor ? 240000", 0, 0, 2, 0);
        Script.beyond(RICH, "armFor ? 9999999", -1, 3);
        Script.beyond(FULL, "armFor ? 9999999", -1, 6);
        Script.beyond(NOTHING, "armFor ? 0", -1, 0, 1);
        Script.beyond(RICH, "armFor 1 ?", -1, 10000000, Integer.MIN_VALUE, Integer.MAX_VALUE);
        Script.unchanged(RICH, "armFor 0 9999999", 0);
        Script.unchanged(GUMS, "armFor 0 240000", 0);
        // On a bump at pace 2 there are odds with ARM below 8: 300000 without.
        String[] bump = {"runner 0 0 0", "pace 0 0 29 2", "ground 9 1"};
        Script.unchanged(bump, "armFor 0 300000", 8);
        for (int arm = 0; arm <= 9; arm++) {
            long mean = new Script(Script.plus(bump, "change 0 1 " + arm)).ask("mean 0 0 0");
            Script.taken(bump, "armFor 0 " + mean, arm - arm % 2);
            if (arm >= 2) {
                long more = new Script(Script.plus(bump, "change 0 1 " + (arm - 2)))
                        .ask("mean 0 0 0");
                Script.taken(bump, "armFor 0 " + (more - 1), arm - arm % 2);
            }
        }
    }

    /** What was asked ahead of it, of whom, changes no answer. */
    private static void askedAgain() {
        String[] others = Script.plus(FULL, "pace 4 0 29 7", "change 4 0 2");
        Script.again(others, "clean 0 0 12", "drops 0 0 10 3", "mean 0 0 0", "least 0 0 3",
                "best 0 0 1", "even 4", "costs 0 3", "worst 4", "spoon 4", "armFor 4 900000",
                "gum 0 0 8 0 0", "gum 4 0 8 0 1", "suspect 4 0 8", "later 2", "team 63", "leg 63 1",
                "ahead 180 0", "winner", "place 4", "mean 4 10 2", "least 4 29 0", "least 2 25 1",
                "best 4 29 0", "drops 4 20 10 0", "drops 4 0 0 0", "drops 0 4 1 1", "mean 1 30 3",
                "least 1 30 3", "judge 0", "costs 4 29", "gum 4 3 4 0 0", "worst 0", "even 0");
        for (int k = 0; k <= 8; k++) {
            Script.taken(Script.plus(others, "even 4"), "gum 4 0 8 " + k + " 0",
                    k == 0 ? 110075314176L : 0);
            Script.taken(Script.plus(others, "worst 0", "drops 0 0 10 9"), "gum 0 0 8 " + k + " 0",
                    k == 0 ? 110075314176L : 0);
        }
        Script.taken(Script.plus(others, "drops 0 0 10 10", "drops 0 0 10 1"), "drops 1 0 10 1", 0);
    }

    /** From YARD 0 on, not SHAKEN, or LEAST (y, 0): whatever YARD, SHAKEN and DROPS he has. */
    private static void whereverHeIs() {
        String[][] asked = {
            {"runner 3 0 2;pick 61;ground 0 1;ground 19 2", "even 0", "2"},
            {"runner 1 6 3;pick 85;pace 0 0 29 8;ground 1 4;ground 18 2", "worst 0", "0"},
            {"runner 3 4 3;pick 87;pace 0 0 29 2;ground 3 2", "spoon 0", "0"},
            {"runner 0 0 0;runner 0 0 0", "later 0", "0"},
            {"runner 0 0 0;runner 0 0 0", "later 1", "0"},
            {"runner 5 4 1", "train 0", "30"},
            {"runner 0 0 0;ground 29 1", "worst 0", "29"},
        };
        String[] states = {"change 0 3 7", "change 0 3 29", "change 0 3 30", "change 0 5 1",
            "change 0 5 3", "steps 30"};
        for (String[] a : asked) {
            String[] setup = a[0].split(";");
            Script.taken(setup, a[1], Integer.parseInt(a[2]));
            for (String state : states) {
                Script.taken(Script.plus(setup, state), a[1], Integer.parseInt(a[2]));
            }
        }
        long mean = new Script(WEAK).ask("mean 0 0 0");
        for (String state : states) {
            String[] weak = Script.plus(WEAK, state);
            Script.taken(weak, "armFor 0 " + mean, 0);
            Script.taken(weak, "mean 0 28 1", 23942);
            Script.taken(weak, "least 0 29 0", 6125);
            Script.taken(weak, "best 0 29 0", 9);
            Script.taken(weak, "costs 0 28", 25000 + 13208 - 10083);
            Script.taken(weak, "clean 0 0 3", 22 * 22 * 22);
            Script.taken(weak, "drops 0 0 2 1", 2 * (19 + 22));
            Script.taken(weak, "gum 0 0 2 1 1", 2 * (19 + 22));
        }
    }

    /** NONE, behind BEYOND: v below 0 is BEYOND, though no ARM would do. */
    private static void armForNone() {
        Script.refused(Due.NONE, RICH, "armFor 0 0");
        Script.refused(Due.NONE, GUMS, "armFor 0 0");
        Script.refused(Due.NONE, GUMS, "armFor 0 239999");
        Script.refused(Due.NONE, Script.calls("runner 0 0 0", "pace 0 0 29 2", "ground 9 1"),
                "armFor 0 299999");
        Script.refused(Due.BEYOND, GUMS, "armFor 0 -1");
        Script.refused(Due.BEYOND, GUMS, "armFor 3 0");
    }
}
