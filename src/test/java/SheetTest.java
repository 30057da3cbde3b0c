/** Promises 41 to 47: spots, sheets. */
public final class SheetTest {
    public static void main(String[] args) {
        hold();
        as();
        sheet();
        write();
        copy();
        load();
        judge();
        Due.end();
    }

    private static void hold() {
        SpoonRace x = Due.raceOf("gum;child");
        Due.due("hold(0, 0)", x.hold(0, 0), 1);
        Due.due("hold(9, 1)", x.hold(9, 1), 1);
        Due.due("hold(5, 1)", x.hold(5, 1), 1);
        Due.due("three", x.count(7), 3);
        Due.due("hold(5, -1)", x.hold(5, -1), 1);
        Due.due("two", x.count(7), 2);
        Due.due("hold(5, -1) again", x.hold(5, -1), 1);
        Due.due("hold(-1, 0)", x.hold(-1, 0), Due.BEYOND);
        Due.due("hold(10, 0)", x.hold(10, 0), Due.BEYOND);
        Due.due("hold(0, 2)", x.hold(0, 2), Due.BEYOND);
        Due.due("hold(0, -2)", x.hold(0, -2), Due.BEYOND);
        Due.due("as it was", x.as(0, 5), 0);
    }

    private static void as() {
        // By kind, the kinds as which one of it may be had, as a set.
        int[] sets = {1, 3, 5, 9, 19, 35, 69};
        SpoonRace x = Due.raceOf("runner; runner");
        x.hold(3, 1);
        for (int kind = 0; kind < 7; kind++) {
            x.change(1, 0, kind);
            for (int asked = 0; asked < 7; asked++) {
                boolean is = (sets[kind] >> asked & 1) == 1;
                Due.due(kind + " as " + asked, x.as(3, asked), is ? 1 : Due.KIND);
            }
        }
        Due.due("as(4, 0)", x.as(4, 0), Due.MISSING);
        Due.due("as(-1, 0)", x.as(-1, 0), Due.BEYOND);
        Due.due("as(10, 0)", x.as(10, 0), Due.BEYOND);
        Due.due("as(4, 7)", x.as(4, 7), Due.BEYOND);
        Due.due("as(4, -1)", x.as(4, -1), Due.BEYOND);
        Due.due("status(5)", x.status(5), 1);
        Due.due("status(2)", x.status(2), 49 - 16);
    }

    private static void sheet() {
        SpoonRace x = new SpoonRace();
        Due.due("sheet(0, 8, 0)", x.sheet(0, 8, 0), 0);
        Due.due("sheet(1, 16, 40)", x.sheet(1, 16, 40), 40);
        Due.due("sheet(3, 32, 3)", x.sheet(3, 32, 3), 3);
        Due.due("sheet(4, 8, 1)", x.sheet(4, 8, 1), Due.BEYOND);
        Due.due("sheet(-1, 8, 1)", x.sheet(-1, 8, 1), Due.BEYOND);
        int[] bits = {-8, 1, 7, 9, 24, 64, Integer.MAX_VALUE, Integer.MIN_VALUE};
        for (int b : bits) {
            Due.due("sheet(0, " + b + ", 1)", x.sheet(0, b, 1), Due.BEYOND);
        }
        Due.due("other bits first", x.sheet(0, 9, -1), Due.BEYOND);
        Due.due("sheet(0, 8, -1)", x.sheet(0, 8, -1), Due.SIZE);
        Due.due("sheet(0, 0, -1)", x.sheet(0, 0, -1), Due.SIZE);
        Due.due("sheet(0, 8, 41)", x.sheet(0, 8, 41), Due.BEYOND);
        Due.due("sheet(0, 0, 41)", x.sheet(0, 0, 41), Due.BEYOND);
        Due.due("it stands", x.judge(0), 0);
        Due.due("sheet(1, 0, 40)", x.sheet(1, 0, 40), 0);
        Due.due("missing", x.judge(1), Due.MISSING);
        Due.due("missing as it was", x.sheet(1, 0, 0), 0);
        Due.due("status(6)", x.status(6), 2);
        // All 0 again.
        x.runner(0, 0, 0);
        x.write(3, 0, 7);
        x.sheet(3, 32, 3);
        Due.due("all 0", x.load(3, 0), 0);
        Due.due("three 0", x.judge(3), 0);
    }

    private static void write() {
        SpoonRace x = Due.raceOf("gum");
        Due.due("missing", x.write(0, 0, 0), Due.MISSING);
        Due.due("write(4, 0, 0)", x.write(4, 0, 0), Due.BEYOND);
        Due.due("write(-1, 0, 0)", x.write(-1, 0, 0), Due.BEYOND);
        x.sheet(0, 8, 3);
        x.sheet(1, 16, 3);
        x.sheet(2, 32, 3);
        for (int s = 0; s < 3; s++) {
            Due.due("write(" + s + ", -1, 0)", x.write(s, -1, 0), Due.BEYOND);
            Due.due("write(" + s + ", 3, 0)", x.write(s, 3, 0), Due.BEYOND);
            Due.due("write(" + s + ", 0, 5)", x.write(s, 0, 5), 1);
            Due.due("write 8 bits and more", x.write(s, 1, 0x106), 1);
            Due.due("write 16 bits and more", x.write(s, 2, 0x10007), 1);
        }
        Due.due("8 bits", x.load(0, 0), 3);
        Due.due("5", x.paceOf(0, 0), 5);
        Due.due("6", x.paceOf(0, 1), 6);
        Due.due("7", x.paceOf(0, 2), 7);
        Due.due("16 bits", x.load(1, 0), 1);
        x.write(1, 1, -0x10000 + 9);
        Due.due("16 bits, of another", x.load(1, 0), 3);
        Due.due("9", x.paceOf(0, 1), 9);
        Due.due("32 bits", x.load(2, 0), 1);
    }

    private static void copy() {
        SpoonRace x = Due.raceOf("gum");
        x.sheet(0, 8, 6);
        x.sheet(1, 8, 3);
        x.sheet(2, 16, 6);
        for (int i = 0; i < 6; i++) {
            x.write(0, i, i + 1);
        }
        Due.due("copy(0, 2, 1, 0, 3)", x.copy(0, 2, 1, 0, 3), 3);
        paces(x, 1, 3, 4, 5);
        Due.due("onwards in itself", x.copy(0, 0, 0, 1, 5), 5);
        paces(x, 0, 1, 1, 2, 3, 4, 5);
        Due.due("back in itself", x.copy(0, 2, 0, 0, 4), 4);
        paces(x, 0, 2, 3, 4, 5, 4, 5);
        Due.due("nothing at the end", x.copy(0, 6, 1, 3, 0), 0);
        Due.due("copy(4, ..)", x.copy(4, 0, 1, 0, 1), Due.BEYOND);
        Due.due("copy(.. 4 ..)", x.copy(0, 0, 4, 0, 1), Due.BEYOND);
        Due.due("copy(-1, ..)", x.copy(-1, 0, 3, 0, 1), Due.BEYOND);
        Due.due("copy(.. -1 ..)", x.copy(3, 0, -1, 0, 1), Due.BEYOND);
        Due.due("one is missing", x.copy(3, 0, 0, 0, -1), Due.MISSING);
        Due.due("the other is missing", x.copy(0, 0, 3, 0, -1), Due.MISSING);
        Due.due("other bits", x.copy(0, 0, 2, 0, -1), Due.KIND);
        int[][] wrong = {{0, -1, 1, 0, 1}, {0, 0, 1, -1, 1}, {0, 0, 1, 0, -1}, {0, 5, 1, 0, 2},
            {0, 0, 1, 2, 2}, {0, 7, 1, 0, 0}, {0, 0, 1, 4, 0}, {0, Integer.MAX_VALUE, 1, 0, 1},
            {0, 1, 1, 0, Integer.MAX_VALUE}, {0, 0, 1, Integer.MAX_VALUE, 1},
            {0, Integer.MAX_VALUE, 1, Integer.MAX_VALUE, Integer.MAX_VALUE}};
        for (int[] w : wrong) {
            Due.due("copy(" + w[0] + ", " + w[1] + ", " + w[2] + ", " + w[3] + ", " + w[4] + ")",
                    x.copy(w[0], w[1], w[2], w[3], w[4]), Due.BEYOND);
        }
        paces(x, 1, 3, 4, 5);
    }

    private static void paces(SpoonRace x, int s, int... want) {
        Due.due("load", x.load(s, 0), want.length);
        for (int i = 0; i < want.length; i++) {
            Due.due("number " + i + " of " + s, x.paceOf(0, i), want[i]);
        }
    }

    private static void load() {
        SpoonRace x = Due.raceOf("gum");
        Due.due("load(4, 0)", x.load(4, 0), Due.BEYOND);
        Due.due("load(-1, 0)", x.load(-1, 0), Due.BEYOND);
        Due.due("missing ahead of no runner", x.load(0, 1), Due.MISSING);
        x.sheet(0, 32, 40);
        Due.due("load(0, 1)", x.load(0, 1), Due.BEYOND);
        Due.due("load(0, -1)", x.load(0, -1), Due.BEYOND);
        Due.due("0 is none", x.load(0, 0), 0);
        for (int i = 0; i < 40; i++) {
            x.write(0, i, 1 + i % 9);
        }
        Due.due("as many as there are yards", x.load(0, 0), 30);
        Due.due("the last", x.paceOf(0, 29), 3);
        x.write(0, 4, 10);
        x.write(0, 3, 9);
        Due.due("10 is none", x.load(0, 0), 4);
        Due.due("9 came", x.paceOf(0, 3), 9);
        Due.due("as it was", x.paceOf(0, 4), 5);
        x.write(0, 1, -1);
        Due.due("-1 is none", x.load(0, 0), 1);
        x.sheet(0, 8, 0);
        Due.due("an empty one", x.load(0, 0), 0);
    }

    private static void judge() {
        SpoonRace x = Due.raceOf("gum; gum pace 5");
        Due.due("judge(4)", x.judge(4), Due.BEYOND);
        Due.due("judge(-1)", x.judge(-1), Due.BEYOND);
        Due.due("missing", x.judge(0), Due.MISSING);
        x.sheet(0, 8, 6);
        int[] film = {0, 1, 1, 0, 1, 0};
        int[] judged = {2, 3, 5, 5, 0, 0};
        for (int i = 0; i < 6; i++) {
            x.write(0, i, film[i]);
            Due.due("written up to " + i, x.judge(0), judged[i]);
        }
        Due.due("all are right", x.judge(0), 0);
        Due.due("nothing changed", x.of(0, 3), 0);
        x.write(0, 2, 0);
        Due.due("the third is not", x.judge(0), 3);
        x.write(0, 2, 257);
        Due.due("by its bits", x.judge(0), 0);
        x.steps(2);
        Due.due("from as it is", x.judge(0), 1);
        // There is no step behind the last, so no number is right.
        x.start();
        x.change(0, 3, 30);
        x.change(1, 3, 28);
        x.sheet(1, 32, 3);
        for (int i = 0; i < 3; i++) {
            x.write(1, i, 1);
        }
        Due.due("two steps alone", x.judge(1), 3);
        x.write(1, 2, -1);
        Due.due("nor is -1", x.judge(1), 3);
        x.sheet(1, 32, 0);
        Due.due("an empty one", x.judge(1), 0);
        SpoonRace nobody = new SpoonRace();
        nobody.sheet(0, 8, 0);
        Due.due("nobody, an empty one", nobody.judge(0), 0);
        nobody.sheet(0, 8, 1);
        Due.due("nobody", nobody.judge(0), 1);
    }
}
