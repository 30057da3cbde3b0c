/** The bounds that promises 41 to 47 name, each sentence by itself. */
public final class SheetEdgeTest {
    private static final String[] NOTHING = {};
    private static final String[] RICH = Script.RICH;
    private static final String[] FULL = Script.RICH_FULL;
    private static final int MIN = Integer.MIN_VALUE;
    private static final int MAX = Integer.MAX_VALUE;

    public static void main(String[] args) {
        hold();
        as();
        asOneOfKind();
        sheet();
        sheetsAreNew();
        write();
        lowestBits();
        copy();
        copyInOrder();
        copyAsTheyWere();
        load();
        loadEnds();
        judge();
        judgeFilm();
        Due.end();
    }

    /** SPOTS 0 to 9; a RUNNER, or nothing (-1). */
    private static void hold() {
        Script.bounds(RICH, "hold ? 1", 0, 1, 9, 1);
        Script.bounds(RICH, "hold 5 ?", -1, 1, 2, 1);
        Script.bounds(FULL, "hold 5 ?", -1, 1, 5, 1);
        Script.bounds(NOTHING, "hold 0 ?", -1, 1, -1, 1);
        Script.bounds(NOTHING, "hold ? -1", 0, 1, 9, 1);
        Script.refused(Due.BEYOND, RICH, "hold 10 3");
        Script.taken(Script.plus(RICH, "hold 5 0"), "as 5 0", 0);
        Script.taken(Script.plus(RICH, "hold 0 1"), "as 0 0", 1);
        Script.refused(Due.MISSING, Script.plus(RICH, "hold 0 -1"), "as 0 0");
        Script.unchanged(Script.plus(RICH, "hold 0 -1"), "hold 0 -1", 1);
        Script.unchanged(RICH, "hold 0 2", 1);
        Script.same("nothing else", RICH, Script.plus(RICH, "hold 5 1", "hold 5 -1"));
    }

    /** BEYOND, then MISSING: it holds nothing, then KIND. */
    private static void as() {
        Script.bounds(Script.plus(RICH, "hold 0 1", "hold 9 2"), "as ? 0", 0, 1, 9, 2);
        Script.beyond(RICH, "as 0 ?", -1, 7, MIN, MAX);
        Script.beyond(RICH, "as ? 0", -1, 10, MIN, MAX);
        // Of a spot that holds nothing, and of one whose runner isn't of the kind.
        Script.beyond(RICH, "as 1 ?", -1, 7);
        Script.refused(Due.MISSING, RICH, "as 1 0");
        Script.refused(Due.MISSING, RICH, "as 1 6");
        Script.refused(Due.MISSING, RICH, "as 8 3");
        Script.refused(Due.KIND, RICH, "as 0 1");
        Script.refused(Due.KIND, RICH, "as 9 6");
        Script.refused(Due.BEYOND, RICH, "as 9 7");
        Script.unchanged(RICH, "as 0 6", 2);
        Script.unchanged(RICH, "as 9 3", 0);
    }

    /** Of that kind, or of one under it. */
    private static void asOneOfKind() {
        String[] under = {"0", "01", "02", "03", "014", "015", "026"};
        for (int kind = 0; kind < 7; kind++) {
            String[] held = {"runner 0 4 1", "runner " + kind + " 4 1", "hold 3 1"};
            for (int asked = 0; asked < 7; asked++) {
                if (under[kind].indexOf('0' + asked) >= 0) {
                    Script.taken(held, "as 3 " + asked, 1);
                } else {
                    Script.refused(Due.KIND, held, "as 3 " + asked);
                }
            }
        }
        // The kind as it is now.
        String[] changed = {"runner 4 4 1", "hold 3 0", "change 0 0 6"};
        Script.taken(changed, "as 3 2", 0);
        Script.refused(Due.KIND, changed, "as 3 1");
    }

    /** BEYOND: no such sheet, other bits. SIZE: n below 0 (also with bits 0). BEYOND: n above 40. */
    private static void sheet() {
        Script.bounds(RICH, "sheet ? 8 7", 0, 7, 3, 7);
        int[] good = {8, 16, 32};
        for (int bits : good) {
            Script.taken(RICH, "sheet 0 " + bits + " 0", 0);
            Script.taken(RICH, "sheet 0 " + bits + " 40", 40);
            Script.beyond(RICH, "sheet 0 " + bits + " ?", 41, MAX);
            Script.refused(Due.SIZE, RICH, "sheet 0 " + bits + " -1");
            Script.refused(Due.SIZE, RICH, "sheet 0 " + bits + " MIN");
            Script.beyond(RICH, "sheet ? " + bits + " -1", -1, 4);
        }
        Script.taken(RICH, "sheet 0 0 0", 0);
        Script.taken(RICH, "sheet 0 0 40", 0);
        Script.unchanged(RICH, "sheet 3 0 40", 0);
        Script.refused(Due.SIZE, RICH, "sheet 0 0 -1");
        Script.refused(Due.SIZE, RICH, "sheet 0 0 MIN");
        Script.refused(Due.SIZE, RICH, "sheet 3 0 -1");
        Script.beyond(RICH, "sheet 0 0 ?", 41, MAX);
        int[] other = {-32, -8, -1, 1, 4, 7, 9, 15, 17, 24, 31, 33, 40, 48, 64, 128, 256, MIN, MAX};
        for (int bits : other) {
            Script.beyond(RICH, "sheet 0 " + bits + " ?", 3, -1, 41);
        }
        Script.beyond(RICH, "sheet ? 9 -1", -1, 4);
        Script.beyond(RICH, "sheet ? 0 -1", -1, 4);
    }

    /** n numbers, all 0; with bits 0 it is MISSING. */
    private static void sheetsAreNew() {
        for (String bits : new String[] {"8", "16", "32"}) {
            // All 0 is nobody but runner 0, alone.
            String[] zeros = Script.plus(RICH, "sheet 0 " + bits + " 30", "sheet 3 0 0",
                    "change 0 3 0", "change 2 3 30");
            Script.taken(zeros, "judge 0", 0);
            Script.taken(zeros, "load 0 0", 0);
        }
        for (int i = 0; i < 40; i++) {
            String[] anew = {"runner 5 4 1", "sheet 2 8 40", "write 2 " + i + " 7", "sheet 2 8 40",
                "write 2 " + i + " 0"};
            String[] old = {"runner 5 4 1", "sheet 2 8 40", "write 2 " + i + " 7", "sheet 2 8 40"};
            Script.same("number " + i + " is 0", anew, Script.plus(old, "copy 2 " + i + " 2 0 1"));
        }
        String[] gone = Script.plus(RICH, "sheet 0 0 2");
        Script.refused(Due.MISSING, gone, "judge 0");
        Script.refused(Due.MISSING, gone, "load 0 0");
        Script.refused(Due.MISSING, gone, "write 0 0 1");
        Script.refused(Due.MISSING, gone, "copy 0 0 1 0 1");
        Script.taken(Script.plus(gone, "sheet 0 8 3"), "load 0 0", 0);
        Script.same("the other sheets stay", Script.plus(RICH, "sheet 0 8 3", "write 0 0 7",
                "write 0 1 8", "write 0 2 9"), RICH);
    }

    /** BEYOND: no such sheet. MISSING. BEYOND: no such number. */
    private static void write() {
        Script.bounds(Script.plus(RICH, "sheet 3 8 1"), "write ? 0 1", 0, 1, 3, 1);
        Script.bounds(RICH, "write 0 ? 1", 0, 1, 2, 1);
        Script.bounds(RICH, "write 1 ? 1", 0, 1, 1, 1);
        for (String bits : new String[] {"8", "16", "32"}) {
            Script.bounds(Script.calls("sheet 0 " + bits + " 40"), "write 0 ? 1", 0, 1, 39, 1);
            Script.bounds(Script.calls("sheet 0 " + bits + " 1"), "write 0 ? 1", 0, 1, 0, 1);
            Script.beyond(Script.calls("sheet 0 " + bits + " 0"), "write 0 ? 1", -1, 0, 1);
        }
        // No number is there where all is MISSING, and no sheet at all is asked first.
        for (int i = -1; i <= 1; i++) {
            Script.refused(Due.MISSING, RICH, "write 3 " + i + " 1");
            Script.refused(Due.BEYOND, RICH, "write 4 " + i + " 1");
            Script.refused(Due.BEYOND, RICH, "write -1 " + i + " 1");
        }
        Script.same("that number alone", RICH, Script.plus(RICH, "write 0 1 3", "write 0 1 8"));
    }

    /** Its lowest bits. */
    private static void lowestBits() {
        int[][] values = {{8, 0x100 + 5, 5}, {8, 5 - 0x100, 5}, {8, 0x7fffff05, 5}, {8, MIN + 5, 5},
            {16, 0x10000 + 5, 5}, {16, 5 - 0x10000, 5}, {16, MIN + 5, 5}, {32, 5, 5},
            {8, 0xff, 0}, {8, 0x80, 0}, {8, -1, 0}, {8, 0x100, 0}, {16, 0x105, 0}, {16, 0x8005, 0},
            {16, 0xffff, 0}, {32, 0x105, 0}, {32, 0x10005, 0}, {32, MIN + 5, 0}, {32, -1, 0},
            {32, 5 - 0x10000, 0}, {16, 5 - 0x100, 0}, {8, 0x85, 0}};
        for (int[] v : values) {
            String[] one = {"runner 0 4 1", "sheet 0 " + v[0] + " 1", "write 0 0 " + v[1]};
            Script.taken(one, "load 0 0", v[2] == 5 ? 1 : 0);
            Script.taken(Script.plus(one, "load 0 0"), "paceOf 0 0", v[2] == 5 ? 5 : 4);
        }
    }

    /** n numbers from one on to another one from one on: as many as both have, and none below 0. */
    private static void copy() {
        Script.bounds(RICH, "copy 0 ? 1 0 1", 0, 1, 2, 1);
        Script.bounds(RICH, "copy 0 ? 1 0 2", 0, 2, 1, 2);
        Script.bounds(RICH, "copy 0 0 1 ? 1", 0, 1, 1, 1);
        Script.bounds(RICH, "copy 0 0 1 ? 0", 0, 0, 2, 0);
        Script.bounds(RICH, "copy 0 ? 1 0 0", 0, 0, 3, 0);
        Script.bounds(RICH, "copy 0 0 1 0 ?", 0, 0, 2, 2);
        Script.bounds(RICH, "copy 1 0 0 0 ?", 0, 0, 2, 2);
        Script.bounds(RICH, "copy 1 0 0 2 ?", 0, 0, 1, 1);
        Script.bounds(RICH, "copy 0 0 0 0 ?", 0, 0, 3, 3);
        Script.bounds(RICH, "copy 0 3 1 2 ?", 0, 0, 0, 0);
        Script.bounds(Script.calls("sheet 0 8 40", "sheet 1 8 40"), "copy 0 0 1 0 ?", 0, 0, 40, 40);
        Script.bounds(Script.calls("sheet 0 8 0", "sheet 1 8 0"), "copy 0 0 1 0 ?", 0, 0, 0, 0);
        Script.bounds(Script.calls("sheet 0 8 0"), "copy 0 ? 0 0 0", 0, 0, 0, 0);
        Script.unchanged(RICH, "copy 0 1 1 1 0", 0);
        Script.unchanged(RICH, "copy 0 0 0 0 3", 3);
        // Sums that wrap around.
        Script.refused(Due.BEYOND, RICH, "copy 0 MAX 1 0 1");
        Script.refused(Due.BEYOND, RICH, "copy 0 0 1 MAX 1");
        Script.refused(Due.BEYOND, RICH, "copy 0 MAX 1 MAX MAX");
        Script.refused(Due.BEYOND, RICH, "copy 0 1 1 1 MAX");
        Script.refused(Due.BEYOND, RICH, "copy 0 MIN 1 MIN MIN");
        Script.refused(Due.BEYOND, RICH, "copy 0 MAX 1 0 MIN");
        Script.refused(Due.BEYOND, RICH, "copy 0 1 1 0 -1");
        Script.refused(Due.BEYOND, RICH, "copy 0 -1 1 0 2");
        Script.refused(Due.BEYOND, RICH, "copy 0 0 1 -1 2");
    }

    /** BEYOND: no such sheet (either). MISSING: one is. KIND: other bits. BEYOND. */
    private static void copyInOrder() {
        String[] all = Script.plus(RICH, "sheet 3 8 2");
        Script.bounds(Script.plus(all, "sheet 2 8 2"), "copy ? 0 1 0 1", 0, 1, 3, 1);
        Script.bounds(Script.plus(all, "sheet 2 8 2"), "copy 1 0 ? 0 1", 0, 1, 3, 1);
        Script.beyond(RICH, "copy ? 0 3 0 1", -1, 4);
        Script.beyond(RICH, "copy 3 0 ? 0 1", -1, 4);
        Script.refused(Due.BEYOND, RICH, "copy 4 -1 4 -1 -1");
        String[] rows = {"0 0 1", "-1 0 1", "0 -1 1", "0 0 -1", "0 0 41", "9 9 0"};
        for (String row : rows) {
            String[] w = row.split(" ");
            Script.refused(Due.MISSING, RICH, "copy 3 " + w[0] + " 0 " + w[1] + " " + w[2]);
            Script.refused(Due.MISSING, RICH, "copy 0 " + w[0] + " 3 " + w[1] + " " + w[2]);
            Script.refused(Due.MISSING, RICH, "copy 3 " + w[0] + " 3 " + w[1] + " " + w[2]);
            Script.refused(Due.KIND, RICH, "copy 0 " + w[0] + " 2 " + w[1] + " " + w[2]);
            Script.refused(Due.KIND, RICH, "copy 2 " + w[0] + " 1 " + w[1] + " " + w[2]);
        }
        String[] bits = {"8", "16", "32"};
        for (String one : bits) {
            for (String other : bits) {
                String[] both = {"sheet 0 " + one + " 2", "sheet 1 " + other + " 2"};
                if (one.equals(other)) {
                    Script.taken(both, "copy 0 0 1 0 2", 2);
                } else {
                    Script.refused(Due.KIND, both, "copy 0 0 1 0 2");
                    Script.refused(Due.KIND, both, "copy 0 0 1 0 0");
                }
            }
        }
    }

    /** As they all were: also in one sheet, on or back. */
    private static void copyAsTheyWere() {
        String[] row = {"runner 5 4 1", "sheet 0 8 6", "write 0 0 1", "write 0 1 2", "write 0 2 3",
            "write 0 3 4", "write 0 4 5", "write 0 5 6"};
        String[][] copies = {{"copy 0 0 0 1 5", "112345"}, {"copy 0 1 0 0 5", "234566"},
            {"copy 0 0 0 3 3", "123123"}, {"copy 0 3 0 0 3", "456456"}, {"copy 0 0 0 2 4", "121234"},
            {"copy 0 2 0 0 4", "345656"}, {"copy 0 5 0 0 1", "623456"}, {"copy 0 0 0 5 1", "123451"},
            {"copy 0 0 0 0 6", "123456"}, {"copy 0 2 0 4 0", "123456"}};
        for (String[] c : copies) {
            Script.taken(Script.plus(row, c[0]), "load 0 0", 6);
            for (int i = 0; i < 6; i++) {
                Script.taken(Script.plus(row, c[0], "load 0 0"), "paceOf 0 " + i,
                        c[1].charAt(i) - '0');
            }
        }
        String[] two = Script.plus(row, "sheet 1 8 3", "copy 0 2 1 1 2", "write 1 0 9", "load 1 0");
        int[] paces = {9, 3, 4, 4};
        for (int i = 0; i < paces.length; i++) {
            Script.taken(two, "paceOf 0 " + i, paces[i]);
        }
        Script.taken(two, "load 0 0", 6);
        // With all their bits: 5 by the lowest of them alone is no pace.
        int[][] wide = {{8, 0x105, 1}, {16, 0x105, 0}, {16, 0x10005, 1}, {32, 0x105, 0},
            {32, 0x10005, 0}, {32, MIN + 5, 0}, {32, 5, 1}};
        for (int[] w : wide) {
            Script.taken(Script.calls("runner 5 4 1", "sheet 0 " + w[0] + " 1", "sheet 3 " + w[0]
                    + " 1", "write 0 0 " + w[1], "copy 0 0 3 0 1"), "load 3 0", w[2]);
        }
    }

    /** BEYOND: no such sheet. MISSING. BEYOND: no such RUNNER. */
    private static void load() {
        Script.bounds(Script.plus(RICH, "sheet 3 32 0"), "load ? 0", 0, 3, 3, 0);
        Script.bounds(RICH, "load 0 ?", 0, 3, 2, 3);
        Script.bounds(FULL, "load 0 ?", 0, 3, 5, 3);
        Script.beyond(Script.calls("sheet 0 8 1"), "load 0 ?", -1, 0, 1);
        Script.beyond(RICH, "load ? 9", -1, 4);
        for (int runner = -1; runner <= 3; runner++) {
            Script.refused(Due.MISSING, RICH, "load 3 " + runner);
        }
        Script.refused(Due.MISSING, NOTHING, "load 0 0");
        Script.same("those paces alone", Script.plus(RICH, "pace 1 0 0 7", "pace 1 1 1 8",
                "pace 1 2 2 9"), Script.plus(RICH, "load 0 1"));
    }

    /** It ends at the first that isn't 1 to 9, or for which there is no YARD. */
    private static void loadEnds() {
        int[] sizes = {0, 1, 29, 30, 31, 40};
        for (int size : sizes) {
            String[] row = Script.calls("runner 5 4 1", "sheet 0 8 " + size);
            for (int i = 0; i < size; i++) {
                row = Script.plus(row, "write 0 " + i + " " + (1 + i % 3));
            }
            Script.taken(row, "load 0 0", Math.min(size, 30));
            for (int y = 0; y < 30; y++) {
                Script.taken(Script.plus(row, "load 0 0"), "paceOf 0 " + y,
                        y < size ? 1 + y % 3 : 4);
            }
            if (size == 40) {
                Script.taken(Script.plus(row, "write 0 30 0"), "load 0 0", 30);
                Script.taken(Script.plus(row, "write 0 29 0"), "load 0 0", 29);
            }
        }
        int[][] values = {{0, 0}, {1, 1}, {9, 1}, {10, 0}, {-1, 0}, {MIN, 0}, {MAX, 0}};
        for (int[] v : values) {
            String[] row = {"runner 5 4 1", "sheet 0 32 3", "write 0 0 5", "write 0 1 " + v[0],
                "write 0 2 6"};
            Script.taken(row, "load 0 0", v[1] == 1 ? 3 : 1);
            Script.taken(Script.plus(row, "load 0 0"), "paceOf 0 0", 5);
            Script.taken(Script.plus(row, "load 0 0"), "paceOf 0 1", v[1] == 1 ? v[0] : 4);
            Script.taken(Script.plus(row, "load 0 0"), "paceOf 0 2", v[1] == 1 ? 6 : 4);
            String[] first = {"runner 5 4 1", "sheet 0 32 1", "write 0 0 " + v[0]};
            Script.taken(first, "load 0 0", v[1]);
        }
    }

    /** BEYOND: no such sheet. MISSING. */
    private static void judge() {
        Script.bounds(Script.plus(RICH, "sheet 0 8 0", "sheet 3 32 0"), "judge ?", 0, 0, 3, 0);
        Script.beyond(NOTHING, "judge ?", -1, 4);
        Script.refused(Due.MISSING, RICH, "judge 3");
        Script.refused(Due.MISSING, NOTHING, "judge 0");
        Script.unchanged(Script.calls("sheet 0 8 0"), "judge 0", 0);
        Script.unchanged(RICH, "judge 0", 1);
    }

    /** 0 if all are; else 1 and how many are right, from the first on. */
    private static void judgeFilm() {
        Script went = new Script(RICH);
        String[] film = Script.plus(RICH, "sheet 3 8 40");
        for (int i = 0; i < 40; i++) {
            long who = went.ask("next");
            if (i > 0) {
                // The number is still 0: as far as it goes it is right.
                Script.taken(film, "judge 3", who == 0 ? new Script(Script.plus(film,
                        "write 3 " + i + " 0")).ask("judge 3") : 1 + i);
            }
            film = Script.plus(film, "write 3 " + i + " " + who);
            went.ask("steps 1");
        }
        Script.unchanged(film, "judge 3", 0);
        for (int i = 0; i < 40; i++) {
            Script.unchanged(Script.plus(film, "write 3 " + i + " 5"), "judge 3", 1 + i);
        }
        Script.taken(Script.plus(film, "write 3 0 5", "write 3 39 5"), "judge 3", 1);
        // No one runs behind the last STEP, so no number is right there.
        String[] last = {"runner 5 4 1", "change 0 3 28", "sheet 0 32 2"};
        Script.unchanged(last, "judge 0", 0);
        String[] more = {"runner 5 4 1", "change 0 3 28", "sheet 0 32 3"};
        Script.unchanged(more, "judge 0", 3);
        Script.taken(Script.plus(more, "write 0 2 -1"), "judge 0", 3);
        Script.taken(Script.plus(more, "change 0 3 30"), "judge 0", 1);
        Script.taken(Script.calls("sheet 0 8 1"), "judge 0", 1);
        Script.taken(Script.calls("sheet 0 8 1", "write 0 0 -1"), "judge 0", 1);
    }
}
