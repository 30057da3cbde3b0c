/** Promises 1 to 12: a new object; the field, runners. */
public final class FieldTest {
    private static final int[] ROCKS = {1, 1, 2, 2, 3, 6, 5, 3, 3};

    public static void main(String[] args) {
        newObject();
        ground();
        pick();
        runner();
        ofAndChange();
        pace();
        told();
        odds();
        now();
        nerves();
        Due.end();
    }

    private static void newObject() {
        SpoonRace x = new SpoonRace();
        int[] counts = {0, 0, 0, 30, 25, 0, 1, 0};
        for (int what = 0; what < 8; what++) {
            Due.due("new: count(" + what + ")", x.count(what), counts[what]);
        }
        for (int which = -1; which < 7; which++) {
            Due.due("new: status(" + which + ")", x.status(which), 0);
        }
        for (int y = 0; y < 30; y++) {
            Due.due("new: ground " + y, x.ground(y, 0), 0);
        }
        Due.due("new: undo", x.undo(), Due.NONE);
        Due.due("new: tear", x.tear(), 0);
        for (int i = 0; i < 10; i++) {
            Due.due("new: as " + i, x.as(i, 0), Due.MISSING);
        }
        for (int s = 0; s < 4; s++) {
            Due.due("new: judge " + s, x.judge(s), Due.MISSING);
        }
    }

    private static void ground() {
        SpoonRace x = new SpoonRace();
        for (int v = 0; v <= 4; v++) {
            Due.due("ground(0, " + v + ")", x.ground(0, v), Math.max(0, v - 1));
            Due.due("ground(29, " + v + ")", x.ground(29, v), Math.max(0, v - 1));
        }
        Due.due("count(3)", x.count(3), 28);
        Due.due("ground(-1, 0)", x.ground(-1, 0), Due.BEYOND);
        Due.due("ground(30, 0)", x.ground(30, 0), Due.BEYOND);
        Due.due("ground(0, -1)", x.ground(0, -1), Due.BEYOND);
        Due.due("ground(0, 5)", x.ground(0, 5), Due.BEYOND);
        Due.due("nothing changed", x.ground(0, 0), 4);
        Due.due("status(0)", x.status(0), 4);
    }

    private static void pick() {
        SpoonRace x = new SpoonRace();
        Due.due("pick(0)", x.pick(0), 25);
        Due.due("pick(99)", x.pick(99), 0);
        Due.due("pick(100)", x.pick(100), Due.BEYOND);
        Due.due("pick(-1)", x.pick(-1), Due.BEYOND);
        Due.due("count(4)", x.count(4), 99);
    }

    private static void runner() {
        SpoonRace x = new SpoonRace();
        Due.due("runner(-1, 0, 0)", x.runner(-1, 0, 0), Due.BEYOND);
        Due.due("runner(7, 0, 0)", x.runner(7, 0, 0), Due.BEYOND);
        Due.due("runner(0, -1, 0)", x.runner(0, -1, 0), Due.BEYOND);
        Due.due("runner(0, 10, 0)", x.runner(0, 10, 0), Due.BEYOND);
        Due.due("runner(0, 0, -1)", x.runner(0, 0, -1), Due.BEYOND);
        Due.due("runner(0, 0, 6)", x.runner(0, 0, 6), Due.BEYOND);
        Due.due("count(0)", x.count(0), 0);
        for (int i = 0; i < 6; i++) {
            Due.due("runner " + i, x.runner(6 - i, 9 - i, i), i);
        }
        Due.due("a seventh", x.runner(0, 0, 0), Due.FULL);
        Due.due("a seventh, beyond first", x.runner(0, 10, 0), Due.BEYOND);
        Due.due("count(0)", x.count(0), 6);
        int[] first = {6, 9, 0, 0, 0, 0, 0, 7};
        for (int what = 0; what < 8; what++) {
            Due.due("of(0, " + what + ")", x.of(0, what), first[what]);
        }
        for (int y = 0; y < 30; y++) {
            Due.due("paceOf(5, " + y + ")", x.paceOf(5, y), 4);
        }
    }

    private static void ofAndChange() {
        SpoonRace x = new SpoonRace();
        Due.due("of none", x.of(0, 0), Due.BEYOND);
        Due.due("change none", x.change(0, 0, 0), Due.BEYOND);
        x.runner(0, 9, 5);
        Due.due("of(0, -1)", x.of(0, -1), Due.BEYOND);
        Due.due("of(0, 8)", x.of(0, 8), Due.BEYOND);
        Due.due("of(1, 0)", x.of(1, 0), Due.BEYOND);
        Due.due("of(-1, 0)", x.of(-1, 0), Due.BEYOND);
        int[] holds = {9, 11, 12, 9, 11, 20, 12};
        for (int kind = 0; kind < 7; kind++) {
            Due.due("change kind", x.change(0, 0, kind), Math.max(0, kind - 1));
            Due.due("kind", x.of(0, 0), kind);
            Due.due("holds of kind " + kind, x.of(0, 7), holds[kind]);
        }
        x.change(0, 0, 0);
        Due.due("change arm", x.change(0, 1, 3), 9);
        Due.due("half of arm is cut", x.of(0, 7), 6);
        Due.due("change spoon", x.change(0, 2, 0), 5);
        Due.due("holds", x.of(0, 7), 1);
        Due.due("change yard", x.change(0, 3, 30), 0);
        Due.due("home", x.count(1), 1);
        Due.due("change yard back", x.change(0, 3, 29), 30);
        Due.due("change shaken", x.change(0, 5, 3), 0);
        Due.due("change shaken back", x.change(0, 5, 0), 3);
        int[][] wrong = {{0, 0, 7}, {0, 0, -1}, {0, 1, 10}, {0, 1, -1}, {0, 2, 6}, {0, 2, -1},
            {0, 3, 31}, {0, 3, -1}, {0, 5, 4}, {0, 5, -1}, {0, 4, 0}, {0, 6, 0}, {0, 7, 0},
            {0, -1, 0}, {1, 0, 0}, {-1, 0, 0}};
        for (int[] w : wrong) {
            Due.due("change(" + w[0] + ", " + w[1] + ", " + w[2] + ")",
                    x.change(w[0], w[1], w[2]), Due.BEYOND);
        }
        int[] stands = {0, 3, 0, 29, 0, 0, 0, 1};
        for (int what = 0; what < 8; what++) {
            Due.due("nothing changed: " + what, x.of(0, what), stands[what]);
        }
    }

    private static void pace() {
        SpoonRace x = new SpoonRace();
        x.runner(0, 4, 1);
        x.runner(0, 4, 1);
        Due.due("pace(0, 3, 5, 9)", x.pace(0, 3, 5, 9), 3);
        Due.due("pace(0, 5, 6, 9)", x.pace(0, 5, 6, 9), 1);
        Due.due("pace(0, 0, 29, 4)", x.pace(0, 0, 29, 4), 4);
        Due.due("pace(0, 29, 29, 1)", x.pace(0, 29, 29, 1), 1);
        Due.due("paceOf(0, 28)", x.paceOf(0, 28), 4);
        Due.due("paceOf(0, 29)", x.paceOf(0, 29), 1);
        Due.due("the other one's", x.paceOf(1, 29), 4);
        int[][] wrong = {{2, 0, 0, 4}, {-1, 0, 0, 4}, {0, -1, 0, 4}, {0, 0, 30, 4}, {0, 30, 30, 4},
            {0, 5, 4, 4}, {0, 0, 0, 0}, {0, 0, 0, 10}};
        for (int[] w : wrong) {
            Due.due("pace(" + w[0] + ", " + w[1] + ", " + w[2] + ", " + w[3] + ")",
                    x.pace(w[0], w[1], w[2], w[3]), Due.BEYOND);
        }
        Due.due("paceOf(0, 30)", x.paceOf(0, 30), Due.BEYOND);
        Due.due("paceOf(0, -1)", x.paceOf(0, -1), Due.BEYOND);
        Due.due("paceOf(2, 0)", x.paceOf(2, 0), Due.BEYOND);
        Due.due("paceOf(0, 0)", x.paceOf(0, 0), 4);
    }

    private static void told() {
        SpoonRace x = new SpoonRace();
        x.runner(0, 4, 1);
        for (int kind = 0; kind < 7; kind++) {
            x.change(0, 0, kind);
            for (int pace = 1; pace <= 9; pace++) {
                int takes = 12 - pace - (kind == 3 ? 1 : 0) + (kind == 6 ? 3 : 0);
                int rocks = kind == 4 && pace == 6 ? 2 : ROCKS[pace - 1] + (kind == 3 ? 1 : 0);
                Due.due("takes of " + kind + " at " + pace, x.told(0, 0, pace), takes);
                Due.due("rocks of " + kind + " at " + pace, x.told(0, 1, pace), rocks);
            }
        }
        Due.due("told(1, 0, 1)", x.told(1, 0, 1), Due.BEYOND);
        Due.due("told(0, 2, 1)", x.told(0, 2, 1), Due.BEYOND);
        Due.due("told(0, -1, 1)", x.told(0, -1, 1), Due.BEYOND);
        Due.due("told(0, 0, 0)", x.told(0, 0, 0), Due.BEYOND);
        Due.due("told(0, 1, 10)", x.told(0, 1, 10), Due.BEYOND);
    }

    private static void odds() {
        SpoonRace x = new SpoonRace();
        x.runner(0, 0, 0);
        int[] hurts = {0, 3, 4, 2, 3};
        for (int ground = 0; ground < 5; ground++) {
            x.ground(7, ground);
            x.change(0, 0, 0);
            Due.due("runner on " + ground, x.odds(0, 7, 6, 0), 6 + hurts[ground]);
            Due.due("runner shaken on " + ground, x.odds(0, 7, 6, 1), 9 + hurts[ground]);
            x.change(0, 0, 2);
            Due.due("looker on " + ground, x.odds(0, 7, 6, 0), 3 + 2 * hurts[ground]);
            x.change(0, 0, 6);
            Due.due("child on " + ground, x.odds(0, 7, 6, 0), 3 + 2 * hurts[ground]);
            x.change(0, 0, 3);
            Due.due("rusher on " + ground, x.odds(0, 7, 6, 0), 7 + hurts[ground]);
            x.change(0, 0, 4);
            Due.due("dancer on " + ground, x.odds(0, 7, 7, 0), 3 + hurts[ground]);
            x.change(0, 0, 5);
            Due.due("gum on " + ground, x.odds(0, 7, 6, 1), Math.max(0, hurts[ground] - 2));
        }
        x.change(0, 0, 0);
        x.runner(0, 0, 0);
        Due.due("alone: the other one counts not", x.odds(0, 0, 6, 0), 6);
        x.change(0, 5, 3);
        Due.due("as asked, not as he is", x.odds(0, 0, 6, 0), 6);
        int[][] wrong = {{2, 0, 1, 0}, {-1, 0, 1, 0}, {0, -1, 1, 0}, {0, 30, 1, 0}, {0, 0, 0, 0},
            {0, 0, 10, 0}, {0, 0, 1, -1}, {0, 0, 1, 2}};
        for (int[] w : wrong) {
            Due.due("odds(" + w[0] + ", " + w[1] + ", " + w[2] + ", " + w[3] + ")",
                    x.odds(w[0], w[1], w[2], w[3]), Due.BEYOND);
        }
    }

    private static void now() {
        SpoonRace x = new SpoonRace();
        Due.due("now of none", x.now(0), Due.BEYOND);
        x.runner(0, 0, 0);
        x.runner(0, 0, 0);
        x.ground(1, 2);
        Due.due("beside one", x.now(0), 3);
        x.change(0, 3, 1);
        Due.due("on the thistle", x.now(0), 7);
        x.change(0, 5, 1);
        Due.due("shaken", x.now(0), 10);
        x.pace(0, 1, 1, 6);
        Due.due("at its pace", x.now(0), 14);
        x.change(1, 3, 30);
        Due.due("beside nobody", x.now(0), 13);
        Due.due("home", x.now(1), Due.STATE);
        Due.due("now(2)", x.now(2), Due.BEYOND);
        Due.due("now(-1)", x.now(-1), Due.BEYOND);
        Due.due("status(4)", x.status(4), 1);
    }

    private static void nerves() {
        SpoonRace x = new SpoonRace();
        Due.due("nerves of none", x.nerves(0), Due.BEYOND);
        for (int i = 0; i < 6; i++) {
            x.runner(0, 0, 0);
            Due.due("beside " + i, x.nerves(i), i);
        }
        x.change(0, 3, 10);
        Due.due("far ahead", x.nerves(0), 0);
        int[] yards = {8, 9, 10, 11, 12};
        for (int i = 0; i < 5; i++) {
            x.change(i + 1, 3, yards[i]);
        }
        Due.due("one yard about him", x.nerves(0), 3);
        Due.due("one on 8", x.nerves(1), 1);
        Due.due("one on 12", x.nerves(5), 1);
        x.change(0, 3, 29);
        x.change(1, 3, 30);
        Due.due("those home count not", x.nerves(0), 0);
        Due.due("one at home, beside 29", x.nerves(1), 1);
        Due.due("nerves(6)", x.nerves(6), Due.BEYOND);
        Due.due("nerves(-1)", x.nerves(-1), Due.BEYOND);
    }
}
