/** The bounds that promises 48 to 52 and the findings' own sentences name, each by itself. */
public final class ImageEdgeTest {
    private static final String[] NOTHING = {};
    private static final String[] RICH = Script.RICH;
    private static final String[] FULL = Script.RICH_FULL;

    public static void main(String[] args) {
        image();
        undo();
        undoWhatWasKept();
        tear();
        count();
        countAll();
        status();
        statusOfEach();
        noFindings();
        findingsInLongs();
        Due.end();
    }

    /** All but THE TAPE and SHEETS is kept; the latest counts. */
    private static void image() {
        Script.taken(NOTHING, "image", 1);
        Script.taken(RICH, "image", 1);
        Script.taken(NOTHING, "tear", 0);
        Script.taken(Script.calls("image"), "tear", 1);
        Script.taken(Script.calls("image", "image"), "tear", 1);
        Script.same("what is so stays", Script.plus(RICH, "tear"),
                Script.plus(RICH, "tear", "image", "tear"));
        Script.taken(Script.calls("image", "runner 0 4 1", "image", "runner 0 4 1"), "undo", 1);
        Script.taken(Script.calls("image", "runner 0 4 1", "image", "undo"), "undo", 1);
    }

    /** How many RUNNERS. NONE: nothing is kept. */
    private static void undo() {
        Script.refused(Due.NONE, NOTHING, "undo");
        Script.refused(Due.NONE, Script.plus(RICH, "tear"), "undo");
        Script.refused(Due.NONE, Script.plus(FULL, "tear"), "undo");
        for (int n = 0; n <= 6; n++) {
            String[] kept = Script.plus(Script.times(n, "runner 0 4 1"), "image");
            Script.unchanged(kept, "undo", n);
            String[] more = Script.plus(kept, Script.times(6 - n, "runner 3 0 0"));
            Script.taken(more, "undo", n);
            Script.same("so many again", kept, Script.plus(more, "undo"));
            Script.taken(Script.plus(more, "undo", "undo"), "count 0", n);
            if (n < 6) {
                Script.taken(Script.plus(more, "undo"), "runner 5 9 5", n);
            } else {
                Script.refused(Due.FULL, Script.plus(more, "undo"), "runner 5 9 5");
            }
        }
        // It stays, also where what came of it is changed.
        Script.same("it stays", Script.plus(RICH, "undo"), Script.plus(RICH, "undo", "pick 1",
                "ground 9 3", "change 0 1 7", "pace 0 0 29 1", "hold 3 1", "steps 9", "undo"));
        Script.taken(Script.plus(RICH, "undo"), "tear", 1);
        // A new runner where another one was is new.
        Script.same("all at first", Script.calls("image", "runner 0 4 1"), Script.calls("image",
                "runner 3 0 0", "pace 0 0 29 9", "change 0 5 3", "steps 20", "undo", "runner 0 4 1"));
        Script.same("all at first, by a text", Script.calls("image", "runner 0 4 1"),
                Script.calls("image", "runner 3 0 0", "pace 0 0 29 9", "change 0 5 3", "steps 20",
                "undo", "read runner"));
    }

    /** Each thing that an image keeps, and each that it doesn't. */
    private static void undoWhatWasKept() {
        String[] kept = Script.plus(RICH, "image");
        String[] changes = {"ground 7 3", "pick 0", "runner 5 9 5", "change 0 0 5", "change 0 1 9",
            "change 0 2 5", "change 0 3 0", "change 1 3 0", "change 0 5 2", "pace 2 0 29 9", "steps 1",
            "steps 180", "start", "wins 0 2", "train 2", "rain 12", "seed 5", "hold 5 1",
            "hold 9 -1", "load 0 1"};
        for (String change : changes) {
            Script.same("undone: " + change, kept, Script.plus(kept, change, "undo"));
        }
        Script.same("undone: a text", Script.plus(kept, "wipe"),
                Script.plus(kept, "wipe", "read pick 1;gum;bump 3 to 9", "undo"));
        String[] stays = {"wipe", "feed 59 1", "sheet 0 16 2", "sheet 1 0 0", "sheet 3 8 4",
            "write 0 1 3", "copy 0 0 1 0 2"};
        for (String change : stays) {
            Script.same("not undone: " + change, Script.plus(kept, change),
                    Script.plus(kept, change, "undo"));
        }
        Script.taken(Script.plus(kept, "wipe", "undo"), "count 5", 0);
        Script.taken(Script.plus(kept, "sheet 0 8 2", "undo"), "load 0 0", 0);
        // A spot held one who is there no more.
        String[] gone = Script.plus(RICH, "image", "runner 5 4 1", "hold 4 3", "undo");
        Script.refused(Due.MISSING, gone, "as 4 0");
        Script.taken(gone, "count 7", 2);
        Script.beyond(gone, "hold 4 ?", 3);
    }

    /** 1 if something was kept, else 0. */
    private static void tear() {
        Script.unchanged(NOTHING, "tear", 0);
        Script.taken(RICH, "tear", 1);
        Script.unchanged(Script.plus(RICH, "tear"), "tear", 0);
        Script.taken(Script.plus(RICH, "tear", "image"), "tear", 1);
        Script.same("nothing else", Script.plus(RICH, "image", "tear"), Script.plus(RICH, "tear"));
    }

    /** What 0 to 7. BEYOND: another what. */
    private static void count() {
        Script.bounds(RICH, "count ?", 0, 3, 7, 2);
        Script.bounds(NOTHING, "count ?", 0, 0, 7, 0);
        for (int what = 0; what <= 7; what++) {
            Script.unchanged(RICH, "count " + what, new Script(RICH).ask("count " + what));
        }
    }

    /** The least and the most of each. */
    private static void countAll() {
        int[] least = {0, 0, 0, 30, 25, 0, 1, 0};
        for (int what = 0; what <= 7; what++) {
            Script.taken(NOTHING, "count " + what, least[what]);
        }
        String[] six = Script.times(6, "runner 5 4 1");
        for (int n = 0; n <= 6; n++) {
            Script.taken(Script.times(n, "runner 5 4 1"), "count 0", n);
        }
        Script.taken(Script.plus(six, "change 0 3 29"), "count 1", 0);
        Script.taken(Script.plus(six, "change 0 3 30"), "count 1", 1);
        Script.taken(Script.plus(six, "change 5 3 30"), "count 1", 1);
        Script.taken(Script.plus(six, "steps 180"), "count 1", 6);
        Script.taken(Script.plus(six, "steps 180"), "count 2", 0);
        String[] ran = Script.plus(FULL, "pace 5 0 29 6", "steps 180");
        long drops = 0;
        for (int r = 0; r < 6; r++) {
            drops += new Script(ran).ask("of " + r + " 6");
        }
        Due.holds("some dropped", drops > 0);
        Script.taken(ran, "count 2", drops);
        Script.taken(Script.calls("read bump 0 to 29"), "count 3", 0);
        Script.taken(Script.calls("read bump 0 to 28"), "count 3", 1);
        Script.taken(Script.calls("read bump 1 to 29"), "count 3", 1);
        Script.taken(Script.calls("ground 0 4"), "count 3", 29);
        Script.taken(Script.times(30, "feed 0 4"), "count 5", 120);
        Script.taken(Script.calls("seed MIN"), "count 6", Integer.MIN_VALUE);
        Script.taken(Script.calls("seed MAX"), "count 6", Integer.MAX_VALUE);
        String[] held = {"runner 0 4 1"};
        for (int spot = 0; spot < 10; spot++) {
            held = Script.plus(held, "hold " + spot + " 0");
            Script.taken(held, "count 7", spot + 1);
        }
        Script.taken(Script.plus(held, "hold 0 -1", "hold 9 -1"), "count 7", 8);
    }

    /** Which -1 to 6. BEYOND (counted from then on): another one. */
    private static void status() {
        Script.bounds(RICH, "status ?", -1, 1, 6, 0);
        Script.bounds(NOTHING, "status ?", -1, 0, 6, 0);
        Script.taken(RICH, "status 0", 1);
        Script.taken(Script.plus(RICH, "status 7"), "status 0", 2);
        Script.taken(Script.plus(RICH, "status -2"), "status -1", 2);
        Script.taken(Script.plus(NOTHING, "status MIN", "status MAX"), "status 0", 2);
        Script.unchanged(RICH, "status -1", 1);
    }

    /** 0 to 6: BEYOND to SIZE; undo() takes none back, and neither does anything else. */
    private static void statusOfEach() {
        String[] found = {"pick 100", "runner 0 4 1", "as 0 1", "winner", "now 0", "judge 3",
            "sheet 0 8 -1"};
        String[] full = Script.plus(Script.times(6, "runner 0 4 1"), "hold 0 0", "change 0 3 30",
                "image");
        for (int which = 0; which < found.length; which++) {
            String[] setup = which == 3 ? Script.calls("image") : full;
            for (int n = 0; n <= 3; n++) {
                String[] times = Script.plus(setup, Script.times(n, found[which]));
                for (int other = 0; other <= 6; other++) {
                    Script.taken(times, "status " + other, other == which ? n : 0);
                }
                Script.taken(times, "status -1", n);
                Script.taken(Script.plus(times, "undo", "start", "tear", "wipe"), "status -1", n);
                Script.taken(Script.plus(times, "undo"), "status " + which, n);
            }
        }
        String[] all = Script.plus(full, "pick 100", "runner 0 4 1", "as 0 1", "tear", "undo",
                "now 0", "judge 3", "sheet 0 8 -1");
        for (int which = 0; which <= 6; which++) {
            Script.taken(all, "status " + which, 1);
        }
        Script.taken(all, "status -1", 7);
        // As many as an object can be asked.
        String[] many = Script.plus(Script.times(300, "pick 100"), Script.times(205, "next"));
        Script.taken(many, "status 0", 300);
        Script.taken(many, "status 3", 205);
        Script.taken(many, "status -1", 505);
    }

    /** Answers below 0 that are no findings: a FAULT, nobody, a z. */
    private static void noFindings() {
        Script.taken(Script.calls("text", "read pick", "read #"), "status -1", 0);
        Script.taken(Script.calls("ahead 0 2"), "status -1", 0);
        Script.taken(Script.calls("seed -100000001", "count 6", "seed 1"), "status -1", 0);
        Script.taken(Script.calls("seed -100000007", "count 6", "seed MIN", "count 6"),
                "status -1", 0);
    }

    /** In longs, too. */
    private static void findingsInLongs() {
        SpoonRace x = new SpoonRace();
        long[] got = {x.clean(0, 0, 0), x.drops(0, 0, 0, 0), x.gum(0, 0, 1, 0, 0)};
        for (long answer : got) {
            Due.due("no such runner", answer, -100000001L);
        }
        Due.due("counted", x.status(0), 3);
        int[] findings = {Due.BEYOND, Due.FULL, Due.KIND, Due.NONE, Due.STATE, Due.MISSING, Due.SIZE};
        for (int i = 0; i < findings.length; i++) {
            Due.due("finding " + i, findings[i], -100000001 - i);
        }
    }
}
