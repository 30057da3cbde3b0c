/** Promises 48 to 52: images, counts, status. */
public final class ImageTest {
    public static void main(String[] args) {
        image();
        latest();
        freshRunners();
        count();
        status();
        Due.end();
    }

    private static void image() {
        SpoonRace x = Due.raceOf("runner arm 0 spoon 0 pace 6; turn 3 to 5; pick 44; rusher");
        x.hold(2, 1);
        x.sheet(0, 8, 2);
        x.steps(11);
        int[] were = all(x);
        Due.due("image", x.image(), 1);
        x.ground(9, 4);
        x.ground(3, 0);
        x.pick(1);
        x.runner(5, 9, 5);
        x.change(0, 0, 6);
        x.change(0, 1, 9);
        x.change(0, 2, 3);
        x.pace(0, 0, 20, 1);
        x.hold(2, 2);
        x.hold(7, 0);
        x.steps(30);
        x.seed(99);
        x.feed(65, 1);
        x.write(0, 0, 7);
        x.sheet(1, 16, 4);
        x.of(9, 9);
        int found = x.status(-1);
        Due.due("undo", x.undo(), 2);
        int[] are = all(x);
        for (int i = 0; i < were.length; i++) {
            Due.due("as it was: " + i, are[i], were[i]);
        }
        Due.due("the spot", x.as(2, 3), 1);
        Due.due("the other spot", x.as(7, 0), Due.MISSING);
        Due.due("findings stay", x.status(-1), found + 1);
        Due.due("the tape stays", x.count(5), 1);
        Due.due("sheet 0 stays", x.load(0, 1), 1);
        Due.due("its number stays", x.paceOf(1, 0), 7);
        Due.due("sheet 1 stays", x.write(1, 3, 0), 1);
        x.start();
        Due.due("undo again: it stays", x.undo(), 2);
        Due.due("time", x.of(0, 4), were[8 + 4]);
        Due.due("tear", x.tear(), 1);
        Due.due("tear again", x.tear(), 0);
        Due.due("undo", x.undo(), Due.NONE);
        Due.due("time stays", x.of(0, 4), were[8 + 4]);
    }

    private static int[] all(SpoonRace x) {
        int[] all = new int[8 + 16 + 60 + 30];
        for (int i = 0; i < 8; i++) {
            all[i] = i == 5 ? 0 : x.count(i);
            all[8 + i] = x.of(0, i);
            all[16 + i] = x.of(1, i);
        }
        for (int y = 0; y < 30; y++) {
            all[24 + y] = x.paceOf(0, y);
            all[54 + y] = x.paceOf(1, y);
            all[84 + y] = x.odds(0, y, 6, 0);
        }
        return all;
    }

    private static void latest() {
        SpoonRace x = new SpoonRace();
        x.image();
        x.runner(0, 0, 0);
        x.image();
        x.runner(0, 0, 0);
        Due.due("the latest", x.undo(), 1);
        Due.due("not the one ahead of it", x.undo(), 1);
        x.tear();
        Due.due("none", x.undo(), Due.NONE);
        x.image();
        x.pick(3);
        Due.due("one again", x.undo(), 1);
        Due.due("pick", x.count(4), 25);
    }

    private static void freshRunners() {
        SpoonRace x = new SpoonRace();
        x.image();
        x.runner(3, 0, 0);
        x.pace(0, 0, 29, 9);
        x.pick(99);
        x.steps(20);
        Due.due("undo", x.undo(), 0);
        Due.due("gone", x.of(0, 0), Due.BEYOND);
        Due.due("runner", x.runner(1, 4, 1), 0);
        int[] want = {1, 4, 1, 0, 0, 0, 0, 5};
        for (int what = 0; what < 8; what++) {
            Due.due("a new one: " + what, x.of(0, what), want[what]);
        }
        Due.due("pace of a new one", x.paceOf(0, 29), 4);
        x.undo();
        Due.due("text", Due.read(x, "gum"), 1);
        Due.due("pace of one of a text", x.paceOf(0, 0), 4);
    }

    private static void count() {
        SpoonRace x = Due.raceOf("rusher arm 0 spoon 0 pace 6;thistle 0 to 9;gum;gum");
        x.change(1, 3, 30);
        x.hold(0, 0);
        x.hold(1, 0);
        x.feed(0, 3);
        x.seed(1);
        x.pick(0);
        // Odds 11 alone and 12 beside another; rests 14, 8: one drop in two steps of his.
        x.change(2, 3, 30);
        x.steps(2);
        int[] want = {3, 2, 1, 20, 0, 3, -1770082073, 2};
        for (int what = 0; what < 8; what++) {
            Due.due("count(" + what + ")", x.count(what), want[what]);
        }
        Due.due("count(-1)", x.count(-1), Due.BEYOND);
        Due.due("count(8)", x.count(8), Due.BEYOND);
        Due.due("status(0)", x.status(0), 2);
    }

    private static void status() {
        SpoonRace x = new SpoonRace();
        x.pick(100);
        Due.due("beyond", x.status(0), 1);
        for (int i = 0; i < 8; i++) {
            x.runner(0, 4, 1);
        }
        Due.due("full", x.status(1), 2);
        x.hold(0, 0);
        x.as(0, 6);
        Due.due("kind", x.status(2), 1);
        x.undo();
        Due.due("none", x.status(3), 1);
        x.change(0, 3, 30);
        x.now(0);
        Due.due("state", x.status(4), 1);
        x.as(1, 0);
        x.judge(0);
        Due.due("missing", x.status(5), 2);
        x.sheet(0, 8, -5);
        Due.due("size", x.status(6), 1);
        Due.due("all", x.status(-1), 9);
        Due.due("status(7)", x.status(7), Due.BEYOND);
        Due.due("counted from then on", x.status(0), 2);
        Due.due("status(-2)", x.status(-2), Due.BEYOND);
        Due.due("all then", x.status(-1), 11);
        // Findings in longs count as well.
        x.clean(9, 0, 0);
        x.drops(9, 0, 0, 0);
        x.gum(9, 0, 0, 0, 0);
        Due.due("in longs, too", x.status(0), 6);
        x.image();
        x.of(9, 9);
        x.undo();
        Due.due("undo takes none back", x.status(0), 7);
    }
}
