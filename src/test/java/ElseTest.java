import java.util.ArrayList;
import java.util.List;

/** What no promise tells of a call stays as it is: every call of the face, by itself. */
public final class ElseTest {
    private static final String[] RICH = Script.RICH;
    private static final String[] FULL = Script.RICH_FULL;
    // The same with the odds of a drop at 0 for all of them, none HOME, and no draws.
    private static final String[] CALM = Script.plus(RICH, "start", "seed 1", "change 0 0 5",
            "change 0 1 9", "change 0 2 5", "change 1 0 5", "change 2 0 5", "change 2 1 9");

    public static void main(String[] args) {
        questions();
        fieldAndRunners();
        steps();
        stepsWithDrops();
        start();
        train();
        drawsAlone();
        tapeAndText();
        spotsAndSheets();
        images();
        Due.end();
    }

    /** A question changes nothing, whatever it answers. */
    private static void questions() {
        String[] questions = {
            "of 0 0", "of 0 1", "of 0 2", "of 0 3", "of 0 4", "of 0 5", "of 0 6", "of 2 7",
            "paceOf 1 3", "told 2 0 4", "told 0 1 6", "odds 0 4 6 1", "now 0", "now 2", "nerves 0",
            "nerves 1", "next", "ahead 40 0", "ahead 40 1", "ahead 40 2", "ahead 40 3", "winner",
            "place 0", "place 2", "clean 0 3 12", "drops 0 3 10 4", "mean 0 0 3", "least 0 0 2",
            "best 0 7 1", "even 0", "costs 2 5", "worst 0", "spoon 0", "armFor 0 9999999",
            "later 1", "team 7", "leg 7 0", "leg 7 2", "gum 0 3 8 2 0", "gum 0 3 8 2 1",
            "suspect 0 0 8", "as 0 6", "judge 0", "judge 1", "count 0", "count 1", "count 2",
            "count 3", "count 4", "count 5", "count 6", "count 7", "status -1", "status 0",
            "status 6",
        };
        for (String question : questions) {
            Script.unchanged(RICH, question, new Script(RICH).ask(question));
            Script.unchanged(FULL, question, new Script(FULL).ask(question));
        }
    }

    private static void fieldAndRunners() {
        act("ground 7 3", "count 3 answers 26", "ground 7 0 answers 3");
        act("pick 7", "count 4 answers 7");
        act("change 0 0 5", "of 0 0 answers 5", "of 0 7 answers 11");
        act("change 0 1 9", "of 0 1 answers 9", "of 0 7 answers 4");
        act("change 0 2 5", "of 0 2 answers 5", "of 0 7 answers 5");
        act("change 1 3 0", "count 1 answers 0", "of 1 3 answers 0");
        act("change 1 5 2", "of 1 5 answers 2");
        act("pace 2 28 29 9", "paceOf 2 28 answers 9", "paceOf 2 29 answers 9");
        act("hold 5 1", "count 7 answers 3", "as 5 0 answers 1");
        act("hold 9 -1", "count 7 answers 1", "as 9 0 answers " + Due.MISSING);
        act("seed 5", "count 6 answers 5");
        act("load 0 2", "paceOf 2 0 answers 7", "paceOf 2 1 answers 8", "paceOf 2 2 answers 9");
        Script.same("a new runner, and nothing else", Script.plus(RICH, "text", "runner 2 4 1"),
                Script.plus(RICH, "text", "read looker"));
        Script.same("put back", RICH, Script.plus(RICH, "ground 7 3", "ground 7 0"));
        Script.same("put back", Script.plus(RICH, "image"),
                Script.plus(RICH, "image", "runner 5 4 1", "undo"));
    }

    /** Who runs, his YARD and TIME alone, if there are no odds. */
    private static void steps() {
        Script.changes(CALM, "steps 1", "of 0 3 answers 1", "of 0 4 answers 6");
        Script.changes(CALM, "steps 3", "of 0 3 answers 1", "of 0 4 answers 6",
                "of 1 3 answers 1", "of 1 4 answers 8", "of 2 3 answers 1", "of 2 4 answers 8");
        Script.changes(Script.plus(CALM, "change 0 5 2"), "steps 1", "of 0 3 answers 1",
                "of 0 4 answers 6", "of 0 5 answers 1");
        Script.changes(Script.plus(CALM, "change 0 3 29"), "steps 1", "count 1 answers 1",
                "of 0 3 answers 30", "of 0 4 answers 6");
        Script.same("in the image", Script.plus(CALM, "undo"),
                Script.plus(CALM, "steps 3", "undo"));
    }

    /** A drop and a draw more: DROPS, PICK, SHAKEN, z. */
    private static void stepsWithDrops() {
        // Odds 10 on a bump; rests of draws by 24 from 1 on: 14, 8.
        String[] one = Script.plus(RICH, "start", "change 1 3 30", "change 2 3 30", "seed 1");
        Script.changes(one, "steps 1", "count 6 answers 1103527590", "of 0 3 answers 1",
                "of 0 4 answers 5");
        Script.changes(Script.plus(one, "seed 1103527590"), "steps 1", "count 2 answers 1",
                "count 6 answers -1770082073", "of 0 3 answers 1", "of 0 4 answers 45",
                "of 0 5 answers 3", "of 0 6 answers 1");
    }

    private static void start() {
        Script rich = new Script(RICH);
        List<String> lines = new ArrayList<>(List.of("count 1 answers 0", "count 2 answers 0"));
        for (int r = 0; r < 3; r++) {
            for (int what = 3; what <= 6; what++) {
                if (rich.ask("of " + r + " " + what) != 0) {
                    lines.add("of " + r + " " + what + " answers 0");
                }
            }
        }
        act("start", lines.toArray(new String[0]));
        String[] ran = Script.plus(CALM, "steps 4", "change 1 5 2", "change 2 3 30");
        Script.changes(ran, "start", "count 1 answers 0", "of 0 3 answers 0", "of 0 4 answers 0",
                "of 1 3 answers 0", "of 1 4 answers 0", "of 1 5 answers 0", "of 2 3 answers 0",
                "of 2 4 answers 0");
        String[] dropped = Script.plus(RICH, "start", "change 1 3 30", "change 2 3 30",
                "seed 1103527590", "steps 1");
        Script.changes(dropped, "start", "count 1 answers 0", "count 2 answers 0",
                "of 0 3 answers 0", "of 0 4 answers 0", "of 0 5 answers 0", "of 0 6 answers 0",
                "of 1 3 answers 0", "of 2 3 answers 0");
    }

    private static void train() {
        String[] lines = new String[30];
        for (int y = 0; y < 30; y++) {
            lines[y] = "paceOf 1 " + y + " answers 9";
        }
        act("train 1", lines);
    }

    /** wins() leaves another z, rain() another GROUND too. */
    private static void drawsAlone() {
        Script.changes(CALM, "wins 0 10");
        long z = new Script(Script.plus(RICH, "wins 0 3")).ask("count 6");
        act("wins 0 3", "count 6 answers " + z);
        // From 7 on the rests are 7 0, 28 3: a thistle on 7 goes, and 28 becomes a turn.
        String[] wet = Script.plus(RICH, "ground 7 2", "seed 7");
        Script.changes(wet, "rain 2", "count 6 answers "
                + new Script(Script.calls("seed 7", "rain 2")).ask("count 6"),
                "ground 7 0 answers 0", "ground 28 0 answers 3");
    }

    private static void tapeAndText() {
        Script.changes(RICH, "feed 59 1", "count 5 answers 7", "text answers -8",
                "pick 25 answers 40");
        Script.changes(RICH, "wipe", "count 5 answers 0", "text answers -1", "pick 25 answers 40");
        Script.changes(RICH, "text", "count 4 answers 3", "count 5 answers 0", "text answers -1");
        String[] two = Script.plus(RICH, "tape ;bump 9");
        Script.changes(two, "text", "count 3 answers 26", "count 4 answers 3", "count 5 answers 0",
                "ground 9 0 answers 1", "text answers -1");
        Script.changes(Script.plus(RICH, "tape ;"), "text", "count 5 answers 0", "text answers -1");
        Script.same("the image stays", Script.plus(RICH, "wipe", "undo"),
                Script.plus(RICH, "text", "undo"));
    }

    private static void spotsAndSheets() {
        Script.changes(RICH, "sheet 3 8 2", "load 3 0 answers 0", "copy 3 0 0 0 0 answers 0",
                "copy 3 0 2 0 0 answers " + Due.KIND);
        // What was written there, behind all that was asked since.
        Script.taken(RICH, "load 0 0", 3);
        Script.taken(RICH, "load 1 0", 2);
        Script.taken(RICH, "load 2 0", 2);
        Script.changes(RICH, "write 0 1 3", "paceOf 0 1 answers 3");
        Script.changes(RICH, "copy 0 0 1 0 2", "paceOf 0 0 answers 7", "paceOf 0 1 answers 8");
        Script.changes(RICH, "copy 1 0 0 1 2", "paceOf 0 1 answers 5", "paceOf 0 2 answers 6");
        for (String act : new String[] {"feed 59 1", "wipe", "sheet 3 8 2", "sheet 1 0 0",
            "write 0 1 3", "copy 0 0 1 0 2"}) {
            Script.same("the image stays", Script.plus(RICH, "undo", act),
                    Script.plus(RICH, act, "undo"));
        }
    }

    private static void images() {
        Script.changes(RICH, "image");
        Script.changes(RICH, "tear", "tear answers 0");
        Script.changes(Script.plus(RICH, "image"), "undo");
        Script.changes(Script.plus(RICH, "image", "pick 7"), "undo", "count 4 answers 40");
    }

    /** A call of the field or the race changes what these lines tell, and nothing in the image. */
    private static void act(String call, String... lines) {
        Script.changes(RICH, call, lines);
        Script.same("in the image", Script.plus(RICH, "undo"), Script.plus(RICH, call, "undo"));
    }
}
