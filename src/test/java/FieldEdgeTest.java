/** The bounds that promises 1 to 12 name, each sentence by itself. */
public final class FieldEdgeTest {
    private static final String[] NOTHING = {};
    private static final String[] RICH = Script.RICH;
    private static final String[] FULL = Script.RICH_FULL;
    // Two runners with odds 2 and a rusher with odds 3, at pace 4 on grass.
    private static final String[] THREE = {"runner 0 0 0", "runner 0 0 0", "runner 3 0 0"};

    public static void main(String[] args) {
        newObject();
        ground();
        pick();
        runner();
        runnersAtFirst();
        of();
        change();
        changeOfWhat();
        pace();
        paceOf();
        told();
        kinds();
        holds();
        odds();
        oddsAreNotBelowNone();
        now();
        nerves();
        Due.end();
    }

    /** All as at first; no RUNNERS; THE TAPE is empty, no image is kept. */
    private static void newObject() {
        Script.same("a new object", Script.calls("ground 0 0", "ground 29 0", "pick 25", "seed 1",
                "wipe", "tear", "start", "hold 0 -1", "hold 9 -1", "sheet 0 0 0", "sheet 3 0 0"),
                NOTHING);
        Script used = new Script(FULL);
        Script.same("a new object beside one in use", NOTHING, Script.calls("count " + used.ask("count 0")));
        Script.refused(Due.BEYOND, NOTHING, "of 0 0");
        Script.taken(NOTHING, "count 5", 0);
        Script.refused(Due.NONE, NOTHING, "undo");
        for (int s = 0; s < 4; s++) {
            Script.refused(Due.MISSING, NOTHING, "judge " + s);
        }
        for (int spot = 0; spot < 10; spot++) {
            Script.refused(Due.MISSING, NOTHING, "as " + spot + " 0");
        }
    }

    /** YARDS 0 to 29; GROUND 0 to 4. What it was. */
    private static void ground() {
        Script.bounds(RICH, "ground ? 2", 0, 1, 29, 4);
        Script.bounds(RICH, "ground 4 ?", 0, 2, 4, 2);
        Script.refused(Due.BEYOND, RICH, "ground 30 5");
        Script.taken(Script.plus(RICH, "ground 0 4"), "ground 0 0", 4);
        Script.taken(Script.plus(RICH, "ground 29 0"), "ground 29 0", 0);
        Script.same("nothing else", RICH, Script.plus(RICH, "ground 4 0", "ground 4 2"));
    }

    /** PICK is 0 to 99. What it was. */
    private static void pick() {
        Script.bounds(RICH, "pick ?", 0, 40, 99, 40);
        Script.taken(Script.plus(RICH, "pick 0"), "count 4", 0);
        Script.taken(Script.plus(RICH, "pick 99"), "count 4", 99);
        Script.taken(Script.plus(RICH, "pick 99"), "pick 0", 99);
        Script.same("nothing else", RICH, Script.plus(RICH, "pick 7", "pick 40"));
    }

    /** KINDS 0 to 6, ARM 0 to 9, SPOON 0 to 5; BEYOND first; FULL: at most 6. */
    private static void runner() {
        Script.bounds(NOTHING, "runner ? 4 1", 0, 0, 6, 0);
        Script.bounds(NOTHING, "runner 0 ? 1", 0, 0, 9, 0);
        Script.bounds(NOTHING, "runner 0 4 ?", 0, 0, 5, 0);
        Script.bounds(RICH, "runner ? 4 1", 0, 3, 6, 3);
        for (int n = 0; n < 6; n++) {
            Script.taken(Script.times(n, "runner 0 4 1"), "runner 0 4 1", n);
        }
        Script.refused(Due.FULL, Script.times(6, "runner 0 4 1"), "runner 0 4 1");
        Script.refused(Due.FULL, FULL, "runner 0 4 1");
        Script.refused(Due.FULL, FULL, "runner 6 9 5");
        Script.refused(Due.FULL, FULL, "runner 0 0 0");
        Script.beyond(FULL, "runner ? 4 1", -1, 7);
        Script.beyond(FULL, "runner 0 ? 1", -1, 10);
        Script.beyond(FULL, "runner 0 4 ?", -1, 6);
    }

    /** PACE 4 for each YARD, YARD, TIME, SHAKEN, DROPS 0 at first, while others are on their way. */
    private static void runnersAtFirst() {
        String[] late = Script.plus(RICH, "runner 2 9 5");
        int[] first = {2, 9, 5, 0, 0, 0, 0, 12};
        for (int what = 0; what < first.length; what++) {
            Script.taken(late, "of 3 " + what, first[what]);
        }
        for (int y = 0; y < 30; y++) {
            Script.taken(late, "paceOf 3 " + y, 4);
        }
        Script.same("first values that a text leaves out", Script.plus(RICH, "wipe", "runner 2 4 1"),
                Script.plus(RICH, "wipe", "read looker"));
    }

    /** Of a RUNNER, what 0 to 7. */
    private static void of() {
        Script.bounds(RICH, "of ? 0", 0, 3, 2, 6);
        Script.bounds(FULL, "of ? 0", 0, 3, 5, 5);
        Script.bounds(RICH, "of 1 ?", 0, 1, 7, 11);
        Script.beyond(NOTHING, "of ? 0", -1, 0, 1);
        int[] shaken = {3, 9, 5, 30, 0, 3, 0, 9};
        String[] changed = {"runner 3 9 5", "change 0 3 30", "change 0 5 3"};
        for (int what = 0; what < 8; what++) {
            Script.unchanged(changed, "of 0 " + what, shaken[what]);
        }
    }

    /** KIND 0 to 6, ARM 0 to 9, SPOON 0 to 5, YARD 0 to 30, SHAKEN 0 to 3. What it was. */
    private static void change() {
        Script.bounds(RICH, "change ? 1 5", 0, 0, 2, 3);
        Script.bounds(FULL, "change ? 1 5", 0, 0, 5, 2);
        Script.beyond(NOTHING, "change ? 0 0", -1, 0, 1);
        Script.bounds(RICH, "change 2 0 ?", 0, 6, 6, 6);
        Script.bounds(RICH, "change 2 1 ?", 0, 3, 9, 3);
        Script.bounds(RICH, "change 2 2 ?", 0, 2, 5, 2);
        Script.bounds(RICH, "change 1 3 ?", 0, 30, 30, 30);
        Script.bounds(RICH, "change 1 5 ?", 0, 0, 3, 0);
        int[][] most = {{0, 6}, {1, 9}, {2, 5}, {3, 30}, {5, 3}};
        for (int[] m : most) {
            String to = "change 1 " + m[0] + " ";
            Script.taken(Script.plus(RICH, to + 0), "of 1 " + m[0], 0);
            Script.taken(Script.plus(RICH, to + m[1]), "of 1 " + m[0], m[1]);
            long was = new Script(RICH).ask("of 1 " + m[0]);
            Script.taken(Script.plus(RICH, to + m[1]), to + was, m[1]);
            Script.same("nothing else", RICH, Script.plus(RICH, to + 0, to + was));
        }
    }

    /** What 0, 1, 2, 3, 5 and no other: TIME, DROPS and HOLDS can't be changed. */
    private static void changeOfWhat() {
        for (int v = 0; v <= 1; v++) {
            Script.beyond(RICH, "change 1 ? " + v, -1, 4, 6, 7, 8, Integer.MIN_VALUE,
                    Integer.MAX_VALUE);
        }
        Script.beyond(RICH, "change 1 4 ?", -1, Integer.MIN_VALUE);
    }

    /** YARDS from one to another one (not less); PACE 1 to 9; how many had another one. */
    private static void pace() {
        Script.bounds(RICH, "pace ? 0 0 5", 0, 1, 2, 1);
        Script.bounds(FULL, "pace ? 0 0 5", 0, 1, 5, 1);
        Script.beyond(NOTHING, "pace ? 0 0 4", -1, 0, 1);
        Script.bounds(RICH, "pace 0 ? 29 5", 0, 30, 29, 1);
        Script.bounds(RICH, "pace 0 0 ? 5", 0, 1, 29, 30);
        Script.bounds(RICH, "pace 0 5 ? 7", 5, 1, 29, 25);
        Script.bounds(RICH, "pace 0 29 ? 7", 29, 1, 29, 1);
        Script.bounds(RICH, "pace 0 ? 0 7", 0, 1, 0, 1);
        Script.bounds(RICH, "pace 0 0 29 ?", 1, 30, 9, 30);
        Script.unchanged(RICH, "pace 0 0 29 6", 0);
        Script.taken(RICH, "pace 1 2 10 8", 2);
        Script.taken(RICH, "pace 1 3 9 8", 0);
        String[] some = Script.plus(RICH, "pace 0 5 7 1");
        int[] paces = {6, 1, 1, 1, 6};
        for (int i = 0; i < paces.length; i++) {
            Script.taken(some, "paceOf 0 " + (4 + i), paces[i]);
        }
        Script.same("nothing else", RICH, Script.plus(some, "pace 0 5 7 6"));
    }

    /** PACE of a RUNNER for a YARD. */
    private static void paceOf() {
        Script.bounds(RICH, "paceOf ? 3", 0, 6, 2, 4);
        Script.bounds(FULL, "paceOf ? 3", 0, 6, 5, 4);
        Script.beyond(NOTHING, "paceOf ? 0", -1, 0, 1);
        String[] ends = Script.plus(RICH, "pace 1 0 0 1", "pace 1 29 29 9");
        Script.bounds(ends, "paceOf 1 ?", 0, 1, 29, 9);
        Script.unchanged(RICH, "paceOf 1 3", 8);
    }

    /** What 0 TAKES, 1 ROCKS; PACE 1 to 9. */
    private static void told() {
        Script.bounds(RICH, "told ? 0 4", 0, 7, 2, 11);
        Script.bounds(FULL, "told ? 1 6", 0, 7, 5, 6);
        Script.beyond(NOTHING, "told ? 0 1", -1, 0, 1);
        Script.bounds(RICH, "told 0 ? 9", 0, 2, 1, 4);
        Script.bounds(RICH, "told 0 0 ?", 1, 10, 9, 2);
        Script.bounds(RICH, "told 0 1 ?", 1, 2, 9, 4);
        Script.bounds(RICH, "told 2 0 ?", 1, 14, 9, 6);
        Script.unchanged(RICH, "told 2 1 6", 6);
        // What a dancer has of his own is at 6 alone.
        String[] dancer = {"runner 4 0 0"};
        Script.taken(dancer, "told 0 1 5", 3);
        Script.taken(dancer, "told 0 1 6", 2);
        Script.taken(dancer, "told 0 1 7", 5);
    }

    /** TAKES, ROCKS and HURTS of every KIND at every PACE and on every GROUND: others as the one above. */
    private static void kinds() {
        // By kind: tenths at pace 1, rocks at 1 to 9, hurts on 0 to 4, holds with arm 0, spoon 0.
        String[][] kinds = {
            {"11", "1 1 2 2 3 6 5 3 3", "0 3 4 2 3", "0"}, {"11", "1 1 2 2 3 6 5 3 3", "0 3 4 2 3", "2"},
            {"11", "1 1 2 2 3 6 5 3 3", "0 6 8 4 6", "3"}, {"10", "2 2 3 3 4 7 6 4 4", "0 3 4 2 3", "0"},
            {"11", "1 1 2 2 3 2 5 3 3", "0 3 4 2 3", "2"}, {"11", "1 1 2 2 3 6 5 3 3", "0 3 4 2 3", "11"},
            {"14", "1 1 2 2 3 6 5 3 3", "0 6 8 4 6", "3"}};
        for (int kind = 0; kind < kinds.length; kind++) {
            String[] rocks = kinds[kind][1].split(" ");
            String[] hurts = kinds[kind][2].split(" ");
            int holds = Integer.parseInt(kinds[kind][3]);
            String[] one = {"runner " + kind + " 0 0", "ground 1 1", "ground 2 2", "ground 3 3",
                "ground 4 4"};
            for (int pace = 1; pace <= 9; pace++) {
                int rock = Integer.parseInt(rocks[pace - 1]);
                Script.taken(one, "told 0 0 " + pace, Integer.parseInt(kinds[kind][0]) + 1 - pace);
                Script.taken(one, "told 0 1 " + pace, rock);
                for (int ground = 0; ground <= 4; ground++) {
                    int odds = rock + Integer.parseInt(hurts[ground]) - holds;
                    String asked = "odds 0 " + ground + " " + pace + " ";
                    Script.taken(one, asked + 0, Math.max(0, odds));
                    Script.taken(one, asked + 1, Math.max(0, odds + 3));
                }
            }
        }
    }

    /** HOLDS: half of ARM (cut) and SPOON, and what the KIND has. */
    private static void holds() {
        int[] more = {0, 2, 3, 0, 2, 11, 3};
        for (int kind = 0; kind < 7; kind++) {
            for (int arm = 0; arm <= 9; arm++) {
                for (int spoon = 0; spoon <= 5; spoon++) {
                    Script.taken(Script.calls("runner " + kind + " " + arm + " " + spoon), "of 0 7",
                            arm / 2 + spoon + more[kind]);
                }
            }
        }
    }

    /** A YARD 0 to 29, a PACE 1 to 9, SHAKEN 1 or 0; alone. */
    private static void odds() {
        Script.bounds(RICH, "odds ? 4 6 0", 0, 11, 2, 8);
        Script.bounds(FULL, "odds ? 4 6 1", 0, 14, 5, 1);
        Script.beyond(NOTHING, "odds ? 0 1 0", -1, 0, 1);
        Script.bounds(RICH, "odds 0 ? 6 0", 0, 10, 29, 10);
        Script.bounds(RICH, "odds 0 4 ? 0", 1, 6, 9, 8);
        Script.bounds(RICH, "odds 0 4 6 ?", 0, 11, 1, 14);
        Script.unchanged(RICH, "odds 0 4 6 1", 14);
        String[] six = Script.times(6, "runner 0 0 0");
        Script.taken(six, "odds 0 0 4 0", 2);
        Script.taken(Script.plus(six, "change 0 5 3"), "odds 0 0 4 0", 2);
        Script.taken(Script.plus(six, "change 0 3 30"), "odds 0 0 4 1", 5);
    }

    /** ODDS are 0 at least; 23 can't be passed, as the greatest that can be is 19. */
    private static void oddsAreNotBelowNone() {
        // HOLDS 2, with ROCKS 1 to 3 and SHAKEN 3 more; HOLDS 4, 5.
        Script.taken(Script.calls("runner 0 4 0"), "odds 0 0 1 0", 0);
        Script.taken(Script.calls("runner 0 4 0"), "odds 0 0 4 0", 0);
        Script.taken(Script.calls("runner 0 4 0"), "odds 0 0 5 0", 1);
        Script.taken(Script.calls("runner 0 4 0"), "odds 0 0 1 1", 2);
        Script.taken(Script.calls("runner 0 8 0"), "odds 0 0 1 1", 0);
        Script.taken(Script.calls("runner 0 9 1"), "odds 0 0 1 1", 0);
        Script.taken(Script.calls("runner 0 7 0"), "odds 0 0 1 1", 1);
        Script.taken(Script.calls("runner 5 9 5", "ground 0 2"), "odds 0 0 6 1", 0);
        String[] beside = Script.times(5, "runner 0 0 0");
        String[] rusher = Script.plus(beside, "runner 3 0 0", "ground 0 2", "pace 5 0 0 6",
                "change 5 5 1");
        Script.taken(rusher, "now 5", 19);
        Script.taken(Script.plus(rusher, "change 5 0 2"), "now 5", 19);
        Script.taken(Script.plus(rusher, "change 5 0 5"), "now 5", 7);
        Script.taken(Script.plus(rusher, "change 5 0 5", "change 5 1 9", "change 5 2 3"), "now 5", 0);
        Script.taken(Script.plus(rusher, "change 5 0 5", "change 5 1 9", "change 5 2 2"), "now 5", 1);
    }

    /** As he is, with NERVES. STATE: he is HOME. */
    private static void now() {
        Script.bounds(THREE, "now ?", 0, 4, 2, 5);
        Script.beyond(NOTHING, "now ?", -1, 0, 1);
        Script.beyond(FULL, "now ?", -1, 6);
        Script.refused(Due.STATE, RICH, "now 1");
        Script.refused(Due.STATE, Script.calls("runner 0 0 0", "change 0 3 30"), "now 0");
        Script.refused(Due.BEYOND, Script.calls("runner 0 0 0", "change 0 3 30"), "now 1");
        Script.taken(Script.calls("runner 0 0 0", "change 0 3 29"), "now 0", 2);
        Script.taken(Script.calls("runner 0 0 0", "change 0 3 30", "change 0 3 0"), "now 0", 2);
        Script.taken(Script.calls("runner 0 0 0", "ground 29 2", "change 0 3 29"), "now 0", 6);
        Script.taken(Script.calls("runner 0 0 0", "pace 0 29 29 6", "change 0 3 29"), "now 0", 6);
        int[] odds = {2, 5, 5, 5};
        for (int shaken = 0; shaken <= 3; shaken++) {
            Script.unchanged(Script.calls("runner 0 0 0", "change 0 5 " + shaken), "now 0",
                    odds[shaken]);
        }
    }

    /** Others, not HOME, on his YARD, the one ahead or the next one. */
    private static void nerves() {
        Script.bounds(THREE, "nerves ?", 0, 2, 2, 2);
        Script.beyond(NOTHING, "nerves ?", -1, 0, 1);
        Script.bounds(Script.times(6, "runner 0 0 0"), "nerves ?", 0, 5, 5, 5);
        Script.taken(Script.calls("runner 0 0 0"), "nerves 0", 0);
        for (int own = 0; own <= 30; own++) {
            for (int other = 0; other <= 30; other++) {
                boolean counts = other < 30 && Math.abs(own - other) <= 1;
                Script.taken(Script.calls("runner 0 0 0", "runner 0 0 0", "change 0 3 " + own,
                        "change 1 3 " + other), "nerves 0", counts ? 1 : 0);
            }
        }
        Script.unchanged(THREE, "nerves 1", 2);
        Script.unchanged(RICH, "nerves 1", 0);
    }
}
