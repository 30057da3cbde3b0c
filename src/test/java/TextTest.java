/** Promises 38 to 40: texts. */
public final class TextTest {
    public static void main(String[] args) {
        feed();
        wipe();
        texts();
        faults();
        seventh();
        nothingChanges();
        Due.end();
    }

    private static void feed() {
        SpoonRace x = new SpoonRace();
        Due.due("feed(_, 0)", x.feed(0, 0), Due.BEYOND);
        Due.due("feed(_, 5)", x.feed(0, 5), Due.BEYOND);
        Due.due("feed(_, -1)", x.feed(0, -1), Due.BEYOND);
        // "pick 7": the highest of the lowest bytes first.
        Due.due("feed pi", x.feed(0x12347069, 2), 2);
        Due.due("feed ck 7", x.feed(0x636b2037, 4), 6);
        Due.due("text", x.text(), 1);
        Due.due("pick", x.count(4), 7);
        Due.due("empty then", x.count(5), 0);
        for (int i = 1; i <= 29; i++) {
            Due.due("feed", x.feed(0, 4), 4 * i);
        }
        Due.due("feed 1", x.feed(0, 1), 117);
        Due.due("no room for 4", x.feed(0, 4), Due.FULL);
        Due.due("nothing came", x.count(5), 117);
        Due.due("room for 3", x.feed(0, 3), 120);
        Due.due("no room", x.feed(0, 1), Due.FULL);
        Due.due("beyond first", x.feed(0, 5), Due.BEYOND);
        Due.due("status(1)", x.status(1), 2);
        // Bytes above 127 are bytes too.
        Due.due("wipe", x.wipe(), 120);
        Due.due("feed -1", x.feed(-1, 4), 4);
        Due.due("a byte that begins no token", x.text(), -1);
    }

    private static void wipe() {
        SpoonRace x = new SpoonRace();
        Due.due("wipe", x.wipe(), 0);
        Due.feedAll(x, "pick 3");
        Due.due("wipe", x.wipe(), 6);
        Due.due("count(5)", x.count(5), 0);
        Due.due("text", x.text(), -1);
        Due.due("pick", x.count(4), 25);
    }

    private static void texts() {
        SpoonRace x = Due.raceOf("grass 0;bump 1 ;thistle 2; turn 3 ; slick 29");
        int[] grounds = {0, 1, 2, 3};
        for (int y = 0; y < 4; y++) {
            Due.due("ground " + y, x.ground(y, 0), grounds[y]);
        }
        Due.due("ground 29", x.ground(29, 0), 4);
        x = Due.raceOf("  bump3to5;thistle 5 to 5;slick 0to29;grass 4 to 6;pick 0099 ");
        Due.due("grass", x.count(3), 3);
        Due.due("slick", x.ground(3, 0), 4);
        Due.due("pick", x.count(4), 99);
        x = Due.raceOf("runner;steady arm 0;looker spoon 0;rusher pace 1;dancer arm 9 spoon 5 pace 9;gum spoon 5pace 2");
        int[][] want = {{0, 4, 1, 4}, {1, 0, 1, 4}, {2, 4, 0, 4}, {3, 4, 1, 1}, {4, 9, 5, 9},
            {5, 4, 5, 2}};
        for (int i = 0; i < 6; i++) {
            Due.due("kind of " + i, x.of(i, 0), want[i][0]);
            Due.due("arm of " + i, x.of(i, 1), want[i][1]);
            Due.due("spoon of " + i, x.of(i, 2), want[i][2]);
            Due.due("pace of " + i, x.paceOf(i, 0), want[i][3]);
            Due.due("last pace of " + i, x.paceOf(i, 29), want[i][3]);
            Due.due("yard of " + i, x.of(i, 3), 0);
        }
        x = Due.raceOf("child arm 7 pace 3");
        Due.due("child", x.of(0, 0), 6);
        Due.due("arm", x.of(0, 1), 7);
        Due.due("pace", x.paceOf(0, 12), 3);
        Due.due("a second text", Due.read(x, "pick 0;child"), 2);
        Due.due("runners", x.count(0), 2);
    }

    private static void faults() {
        String[][] faults = {
            {"", "0"}, {"   ", "3"}, {";", "0"}, {"pick", "4"}, {"pick  ", "6"}, {"pick 3;", "7"},
            {"pick 3; ", "8"}, {"pick 3;;", "7"}, {"pick 3 4", "7"}, {"pick 100", "5"},
            {"pick 1000", "5"}, {"pick 99999999999999999999", "5"}, {"pick 4294967297", "5"},
            {"pick x", "5"}, {"pick ;", "5"},
            {"pick #", "5"}, {"pick -1", "5"}, {"Pick 1", "0"}, {"picks 1", "0"}, {"pic 1", "0"},
            {"pick 1#", "6"}, {"pick\t1", "4"}, {"pick 1\n", "6"}, {"3", "0"}, {"to 3", "0"},
            {"arm 3", "0"}, {"bump", "4"}, {"bump 30", "5"}, {"bump 3 to", "9"},
            {"bump 3 to 2", "10"}, {"bump 3 to 30", "10"}, {"bump 3 to 3 to 4", "12"},
            {"bump 3 too 4", "7"}, {"bump 3 pick 4", "7"}, {"bump to 4", "5"}, {"bumpto 4", "0"},
            {"gum arm", "7"}, {"gum arm 10", "8"}, {"gum arm x", "8"}, {"gum spoon 6", "10"},
            {"gum spoon", "9"}, {"gum pace 0", "9"}, {"gum pace 10", "9"}, {"gum pace", "8"},
            {"gum spoon 1 arm 1", "12"}, {"gum pace 1 spoon 1", "11"}, {"gum pace 1 arm 1", "11"},
            {"gum arm 1 arm 1", "10"}, {"gum 3", "4"}, {"gum gum", "4"}, {"gum;gum;bum", "8"},
            {"gum ; gum arm 3 ; pick 3 ; bump 4 to 2 ; #", "37"}, {"grass 7 to 7;turn", "17"},
            {"slick 5 to 4", "11"}, {"turn 12 to 11", "11"}, {"thistle 29 to 29 ;child spoon 6", "30"},
            {"rusher;", "7"}, {"dancer,", "6"}, {"looker steady", "7"}, {"runner arm 4 pace", "17"},
        };
        for (String[] f : faults) {
            SpoonRace x = new SpoonRace();
            Due.due("fault of \"" + f[0] + "\"", Due.read(x, f[0]), -1 - Integer.parseInt(f[1]));
            Due.due("empty then", x.count(5), 0);
            Due.due("no finding", x.status(-1), 0);
            Due.due("no runner", x.count(0), 0);
            Due.due("all grass", x.count(3), 30);
            Due.due("pick", x.count(4), 25);
        }
        for (int b = 0; b < 256; b++) {
            SpoonRace x = new SpoonRace();
            Due.feedAll(x, "pick 3");
            x.feed(b, 1);
            boolean isBlank = b == ' ';
            boolean isDigit = b >= '0' && b <= '9';
            int want = isBlank || isDigit ? 1 : b == ';' ? -8 : -7;
            Due.due("byte " + b, x.text(), want);
        }
    }

    private static void seventh() {
        SpoonRace x = new SpoonRace();
        Due.due("seven at once", Due.read(x, "gum;gum;gum;gum;gum;gum; gum arm 77"), -26);
        Due.due("none", x.count(0), 0);
        x.runner(0, 0, 0);
        Due.due("a seventh with those there", Due.read(x, "gum;gum;gum;gum;gum;child"), -21);
        Due.due("one", x.count(0), 1);
        Due.due("five more", Due.read(x, "gum;gum;gum;gum;child"), 5);
        Due.due("the word itself", Due.read(x, "pick 1; steady"), -9);
        Due.due("pick", x.count(4), 25);
        Due.due("others yet", Due.read(x, "pick 1; bump 1"), 2);
    }

    private static void nothingChanges() {
        SpoonRace x = Due.raceOf("looker; turn 2; pick 9");
        x.hold(4, 0);
        x.seed(44);
        x.steps(3);
        int time = x.of(0, 4);
        Due.due("fault", Due.read(x, "gum; grass 0 to 29; pick 3; looker; ?"), -37);
        Due.due("runners", x.count(0), 1);
        Due.due("grass", x.count(3), 29);
        Due.due("pick", x.count(4), 9);
        Due.due("time", x.of(0, 4), time);
        Due.due("text", Due.read(x, "gum; grass 0 to 29; pick 3"), 3);
        Due.due("runners", x.count(0), 2);
        Due.due("the first goes on", x.of(0, 4), time);
        Due.due("spots stay", x.as(4, 2), 0);
        Due.due("yard", x.of(0, 3), 3);
    }
}
