/** The bounds that promises 38 to 40 and point 3 of the terms name, each sentence by itself. */
public final class TextEdgeTest {
    private static final String[] NOTHING = {};
    private static final String[] RICH = Script.RICH;
    private static final String[] RICH_WIPED = Script.plus(RICH, "wipe");
    private static final String[] FULL = Script.RICH_FULL;
    // 116 bytes, with a text that can be read.
    private static final String[] TAPE_116 = Script.plus(Script.calls("tape pick 5  "),
            Script.times(27, "tape     "));

    public static void main(String[] args) {
        feed();
        bytesInOrder();
        feedFull();
        wipe();
        numbers();
        numbersFromOneToAnother();
        tokensAsLongAsCanBe();
        blanks();
        endsTooEarly();
        whatCannotStandThere();
        seventhRunner();
        wholeTape();
        itemByItem();
        Due.end();
    }

    private static String blanks(int n) {
        return " ".repeat(n);
    }

    /** n 1 to 4: how many bytes THE TAPE has. */
    private static void feed() {
        Script.bounds(RICH, "feed 0 ?", 1, 7, 4, 10);
        Script.bounds(NOTHING, "feed -1 ?", 1, 1, 4, 4);
        Script.taken(RICH, "feed 0 2", 8);
        Script.taken(RICH, "feed 0 3", 9);
        for (int n = 1; n <= 4; n++) {
            Script.same("nothing else", RICH_WIPED, Script.plus(RICH, "feed 7 " + n, "wipe"));
        }
    }

    /** The n lowest bytes, the highest of these first, behind THE TAPE. */
    private static void bytesInOrder() {
        // "3", "12", "k 7", "pick", and in front of them what must not come.
        String[] one = {"tape pick ", "feed " + 0x41424333 + " 1", "text"};
        Script.taken(one, "count 4", 3);
        String[] two = {"tape pick ", "feed " + 0xff203132 + " 2", "text"};
        Script.taken(two, "count 4", 12);
        String[] three = {"tape pic", "feed " + 0xff6b2037 + " 3", "text"};
        Script.taken(three, "count 4", 7);
        String[] four = {"feed " + 0x7069636b + " 4", "feed " + 0x20203931 + " 4", "text"};
        Script.taken(four, "count 4", 91);
        // The highest byte is a byte, not a sign.
        Script.taken(Script.calls("tape pick 3", "feed " + 0xa0202020 + " 4"), "text", -7);
        Script.taken(Script.calls("tape pick 3", "feed " + 0x202020a0 + " 4"), "text", -10);
        Script.taken(Script.calls("feed MIN 4"), "text", -1);
        Script.taken(Script.calls("feed " + 0x20202020 + " 4", "feed -1 1"), "text", -5);
    }

    /** At most 120 bytes: FULL if there is no room for all of them; BEYOND first. */
    private static void feedFull() {
        Script.taken(TAPE_116, "count 5", 116);
        Script.taken(TAPE_116, "text", 1);
        for (int size = 116; size <= 120; size++) {
            String[] filled = size == 116 ? TAPE_116
                    : Script.plus(TAPE_116, "tape " + blanks(size - 116));
            for (int n = 1; n <= 4; n++) {
                String feed = "feed " + 0x23232323 + " " + n;
                if (size + n <= 120) {
                    Script.taken(filled, feed, size + n);
                } else {
                    Script.refused(Due.FULL, filled, feed);
                }
            }
            Script.beyond(filled, "feed 0 ?", 0, 5, -1, Integer.MIN_VALUE, Integer.MAX_VALUE);
            Script.taken(filled, "text", 1);
        }
        Script.refused(Due.FULL, Script.plus(RICH_WIPED, Script.times(30, "feed 32 4")),
                "feed 32 1");
        Script.taken(Script.plus(TAPE_116, "tape     ", "wipe"), "feed 0 4", 4);
        Script.taken(Script.plus(TAPE_116, "tape     ", "text"), "feed 0 4", 4);
    }

    /** How many bytes it had. */
    private static void wipe() {
        Script.unchanged(NOTHING, "wipe", 0);
        Script.taken(RICH, "wipe", 6);
        Script.unchanged(RICH_WIPED, "wipe", 0);
        Script.taken(Script.plus(TAPE_116, "tape     "), "wipe", 120);
        Script.taken(Script.plus(TAPE_116, "wipe"), "count 5", 0);
        Script.same("nothing else", Script.plus(RICH_WIPED, "tape pick 3"), RICH);
    }

    /** The text is read so; a FAULT is no finding, and changes nothing but THE TAPE. */
    private static void fault(String text, int place) {
        String[] fed = text.isEmpty() ? RICH_WIPED : Script.plus(RICH_WIPED, "tape " + text);
        Script.taken(fed, "text", -1 - place);
        Script.same("nothing changes", RICH_WIPED, Script.plus(fed, "text"));
    }

    /** The text is read, and leaves behind what the calls do. */
    private static void read(String text, int items, String... calls) {
        Script.taken(Script.plus(RICH_WIPED, "tape " + text), "text", items);
        Script.same("as told by \"" + text + "\"", Script.plus(RICH_WIPED, calls),
                Script.plus(RICH_WIPED, "tape " + text, "text"));
    }

    /** YARDS 0 to 29, PICK 0 to 99, ARM 0 to 9, SPOON 0 to 5, PACE 1 to 9; NUMBERS are 999 at most. */
    private static void numbers() {
        String[] grounds = {"grass", "bump", "thistle", "turn", "slick"};
        for (int v = 0; v < 5; v++) {
            read(grounds[v] + " 0", 1, "ground 0 " + v);
            read(grounds[v] + " 29", 1, "ground 29 " + v);
            fault(grounds[v] + " 30", grounds[v].length() + 1);
        }
        read("pick 0", 1, "pick 0");
        read("pick 99", 1, "pick 99");
        fault("pick 100", 5);
        String[] kinds = {"runner", "steady", "looker", "rusher", "dancer", "gum", "child"};
        for (int kind = 0; kind < 7; kind++) {
            read(kinds[kind], 1, "runner " + kind + " 4 1");
            fault(kinds[kind] + "s", 0);
        }
        read("gum arm 0", 1, "runner 5 0 1");
        read("gum arm 9", 1, "runner 5 9 1");
        fault("gum arm 10", 8);
        read("gum spoon 0", 1, "runner 5 4 0");
        read("gum spoon 5", 1, "runner 5 4 5");
        fault("gum spoon 6", 10);
        fault("gum pace 0", 9);
        read("gum pace 1", 1, "runner 5 4 1", "pace 3 0 29 1");
        read("gum pace 9", 1, "runner 5 4 1", "pace 3 0 29 9");
        fault("gum pace 10", 9);
        String[] heads = {"bump ", "bump 3 to ", "pick ", "gum arm ", "gum spoon ", "gum pace "};
        String[] wrong = {"100", "999", "1000", "9999", "2147483648", "4294967299",
            "18446744073709551619", "00000000000000000001000"};
        for (String head : heads) {
            for (String number : wrong) {
                fault(head + number, head.length());
                fault(head + number + ";", head.length());
            }
        }
        // Zeros in front make no other number.
        read("bump 007", 1, "ground 7 1");
        read("pick 0000000000007", 1, "pick 7");
        read("gum arm 007 spoon 0004 pace 03", 1, "runner 5 7 4", "pace 3 0 29 3");
    }

    /** To a NUMBER of 0 to 29, not less: these YARDS. */
    private static void numbersFromOneToAnother() {
        read("bump 5 to 5", 1, "ground 5 1");
        fault("bump 5 to 4", 10);
        fault("bump 5 to 0", 10);
        read("bump 5 to 6", 1, "ground 5 1", "ground 6 1");
        read("bump 0 to 0", 1, "ground 0 1");
        read("bump 29 to 29", 1, "ground 29 1");
        fault("bump 29 to 28", 11);
        fault("bump 28 to 30", 11);
        fault("bump 30 to 30", 5);
        fault("bump 30 to 29", 5);
        String[] all = new String[30];
        for (int y = 0; y < 30; y++) {
            all[y] = "ground " + y + " 3";
        }
        read("turn 0 to 29", 1, all);
    }

    /** TOKENS, each as long as can be. */
    private static void tokensAsLongAsCanBe() {
        read("pick3", 1, "pick 3");
        read("bump3to5;pick9", 2, "ground 3 1", "ground 4 1", "ground 5 1", "pick 9");
        read("gum arm3spoon2pace1", 1, "runner 5 3 2", "pace 3 0 29 1");
        fault("gumarm 3", 0);
        fault("gum armspoon 3", 4);
        fault("gumgum", 0);
        fault("pick 1 0", 7);
        fault("pick 3pick 4", 6);
        fault("pi ck 3", 0);
        fault("bump 3 t o 5", 7);
        fault("bump 3 to5 6", 11);
        fault("bump 3 toto 5", 7);
        fault("gum arm 3 3", 10);
        fault("3pick", 0);
    }

    /** Blanks may stand between; there is one kind of them. */
    private static void blanks() {
        read("   pick   3   ", 1, "pick 3");
        read(" pick 3 ; pick 4 ", 2, "pick 4");
        read("pick 3;pick 4", 2, "pick 4");
        fault("   ", 3);
        fault(" ", 1);
        fault("", 0);
        for (int b = 0; b < 256; b++) {
            boolean isLetter = b >= 'a' && b <= 'z';
            boolean isDigit = b >= '0' && b <= '9';
            String[] fed = {"tape pick", "feed " + b + " 1", "tape 3"};
            // A letter makes the word another one, and a second digit makes another number.
            int due = b == ' ' || isDigit ? 1 : isLetter ? -1 : -5;
            Script.taken(fed, "text", due);
        }
    }

    /** How many bytes there are if it ends too early. */
    private static void endsTooEarly() {
        String[] texts = {"bump", "bump ", "bump 3 to", "bump 3 to  ", "pick", "pick   ", "gum arm",
            "gum arm ", "gum spoon", "gum arm 3 spoon", "gum pace", "gum arm 3 spoon 2 pace ",
            "pick 3;", "pick 3; ", "gum;", "gum ;  ", "bump 3;", "bump 3 to 4 ;"};
        for (String text : texts) {
            fault(text, text.length());
        }
        // Every begin of a text: where it isn't one it ends too early, or has half a word.
        String whole = "bump 3 to 5;gum arm 3 spoon 2 pace 1;pick 78";
        int[] items = new int[whole.length() + 1];
        java.util.Arrays.fill(items, -1);
        items[6] = 1;
        items[7] = 1;
        items[11] = 1;
        items[15] = 2;
        items[16] = 2;
        items[21] = 2;
        items[22] = 2;
        items[29] = 2;
        items[30] = 2;
        items[36] = 2;
        items[43] = 3;
        items[44] = 3;
        int[][] halves = {{1, 3, 0}, {8, 8, 7}, {13, 14, 12}, {17, 18, 16}, {23, 26, 22},
            {31, 33, 30}, {38, 40, 37}};
        for (int n = 1; n <= whole.length(); n++) {
            int due = items[n] > 0 ? items[n] : -1 - n;
            for (int[] half : halves) {
                due = n >= half[0] && n <= half[1] ? -1 - half[2] : due;
            }
            Script.taken(Script.calls("tape " + whole.substring(0, n)), "text", due);
        }
    }

    /** The first byte of the first TOKEN that can't stand there. */
    private static void whatCannotStandThere() {
        Object[][] faults = {
            {";", 0}, {";pick 3", 0}, {"pick;3", 4}, {"pick 3;;pick 4", 7}, {"pick 3 ;  ; pick 4", 10},
            {"pick pick", 5}, {"pick gum", 5}, {"pick 3 to 4", 7}, {"pick 3 arm 4", 7},
            {"3", 0}, {"to 3", 0}, {"arm 3", 0}, {"spoon 3", 0}, {"pace 3", 0},
            {"bump gum", 5}, {"bump to 3", 5}, {"bump 3 to to", 10}, {"bump 3 to gum", 10},
            {"bump 3 ; to 5", 9}, {"bump 3 arm 5", 7}, {"bump 3 to ; 5", 10},
            {"gum to 3", 4}, {"gum 3", 4}, {"gum pick 3", 4}, {"gum gum", 4},
            {"gum spoon 3 arm 3", 12}, {"gum pace 3 arm 3", 11}, {"gum pace 3 spoon 3", 11},
            {"gum arm 3 arm 3", 10}, {"gum spoon 3 spoon 3", 12}, {"gum pace 3 pace 3", 11},
            {"gum arm spoon 3", 8}, {"gum arm ; 3", 8}, {"gum pace 3 to 4", 11},
            {"Pick 3", 0}, {"pick 3,", 6}, {"pick 3.5", 6}, {"pick -3", 5}, {"pick +3", 5},
            {"pick #", 5}, {"#", 0}, {"pick 3; #", 8}, {"pick 3 #", 7}, {"gum#", 3}, {"gum_arm 3", 3},
            {"pick 3:pick 4", 6}, {"pick 3{pick 4", 6}, {"pick 3`pick 4", 6}, {"pick 3/", 6},
            {"pick 3; bump 4; gum arm 3; pick 100; #", 32},
            {"grass 30; pick 100", 6}, {"pick 100; grass 30", 5},
        };
        for (Object[] f : faults) {
            fault((String) f[0], (Integer) f[1]);
        }
        // Where a NUMBER is due nothing else can stand, and the FAULT is there.
        String[] heads = {"bump ", "bump 3 to ", "pick ", "gum arm ", "gum spoon ", "gum pace "};
        String[] others = {"; 3", "gum 3", "to 3", "arm 3", "spoon 3", "pace 3", "#3", "-1", "x"};
        for (String head : heads) {
            for (String other : others) {
                fault(head + other, head.length());
            }
        }
    }

    /** The WORD of a 7th RUNNER: its own place, with those that there are. */
    private static void seventhRunner() {
        String[] there = {};
        for (int n = 0; n <= 6; n++) {
            StringBuilder all = new StringBuilder();
            for (int i = n; i < 6; i++) {
                all.append("gum;");
            }
            String[] fed = Script.plus(Script.times(n, "runner 0 4 1"), "tape " + all + "gum arm 77");
            Script.taken(fed, "text", -1 - 4 * (6 - n));
            Script.taken(Script.plus(fed, "text"), "count 0", n);
            Script.taken(Script.plus(Script.times(n, "runner 0 4 1"), "tape " + all + "pick 8"),
                    "text", 7 - n);
            there = Script.plus(Script.times(n, "runner 0 4 1"), "tape " + all + "pick 8", "text");
            Script.taken(there, "count 0", 6);
            Script.taken(there, "count 4", 8);
        }
        String[] kinds = {"runner", "steady", "looker", "rusher", "dancer", "gum", "child"};
        for (String kind : kinds) {
            Script.taken(Script.plus(FULL, "wipe", "tape pick 1 ; " + kind), "text", -10);
            Script.taken(Script.plus(FULL, "wipe", "tape pick 1 ; " + kind, "text"), "count 4", 40);
        }
        Script.same("nothing changes", Script.plus(FULL, "wipe"),
                Script.plus(FULL, "wipe", "tape pick 1;gum", "text"));
    }

    /** A whole TAPE, 120 bytes. */
    private static void wholeTape() {
        String picks = "pick0;".repeat(19);
        read(picks + "pick0", 20, "pick 0");
        read(picks + "pick0 ", 20, "pick 0");
        read(picks + "pick10", 20, "pick 10");
        fault(picks + "pick0;", 120);
        fault(picks + "pick0#", 119);
        fault(picks + "pick  ", 120);
        read(blanks(117) + "gum", 1, "runner 5 4 1");
        fault(blanks(116) + "gums", 116);
        read("bump" + blanks(114) + "29", 1, "ground 29 1");
        fault("bump" + blanks(114) + "30", 118);
        read("pick " + "0".repeat(113) + "42", 1, "pick 42");
        fault("a".repeat(120), 0);
        fault("pick " + "9".repeat(115), 5);
        fault(blanks(120), 120);
        fault(";".repeat(120), 0);
    }

    /** All that it tells is so, item by item: how many ITEMS. */
    private static void itemByItem() {
        read("pick 3;pick 4;pick 5", 3, "pick 5");
        read("bump 3 to 5;grass 4;slick 5", 3, "ground 3 1", "ground 4 0", "ground 5 4");
        read("gum;runner;child spoon 0", 3, "runner 5 4 1", "runner 0 4 1", "runner 6 4 0");
        Script.taken(Script.plus(RICH_WIPED, "tape gum", "text"), "count 5", 0);
        Script.taken(Script.plus(RICH_WIPED, "tape gum", "text"), "text", -1);
        Script.taken(RICH, "text", 1);
        Script.taken(Script.plus(RICH, "text"), "count 4", 3);
    }
}
