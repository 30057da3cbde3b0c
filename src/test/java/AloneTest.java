/** Promises 20 to 30: alone. */
public final class AloneTest {
    // Odds 2 at pace 4 on grass, and 5 when shaken.
    private static final String WEAK = "runner arm 0 spoon 0";

    public static void main(String[] args) {
        clean();
        drops();
        mean();
        leastAndBest();
        train();
        even();
        costs();
        worst();
        spoon();
        armFor();
        nothingChanges();
        Due.end();
    }

    private static void clean() {
        SpoonRace x = Due.raceOf(WEAK);
        Due.due("clean(0, 0, 0)", x.clean(0, 0, 0), 1);
        Due.due("clean(0, 0, 3)", x.clean(0, 0, 3), 10648);
        Due.due("clean(0, 18, 12)", x.clean(0, 18, 12), 12855002631049216L);
        Due.due("clean(0, 29, 1)", x.clean(0, 29, 1), 22);
        x.pace(0, 4, 4, 6);
        x.ground(5, 2);
        x.change(0, 5, 3);
        Due.due("by yards", x.clean(0, 3, 3), 22 * 18 * 18);
        x.runner(0, 0, 0);
        Due.due("alone", x.clean(0, 0, 1), 22);
        Due.due("clean(0, 29, 2)", x.clean(0, 29, 2), Due.BEYOND);
        Due.due("clean(0, 30, 0)", x.clean(0, 30, 0), Due.BEYOND);
        Due.due("clean(0, -1, 1)", x.clean(0, -1, 1), Due.BEYOND);
        Due.due("clean(0, 0, 13)", x.clean(0, 0, 13), Due.BEYOND);
        Due.due("clean(0, 0, -1)", x.clean(0, 0, -1), Due.BEYOND);
        Due.due("clean(0, 29, MAX)", x.clean(0, 29, Integer.MAX_VALUE), Due.BEYOND);
        Due.due("clean(2, 0, 1)", x.clean(2, 0, 1), Due.BEYOND);
        Due.due("clean(-1, 0, 1)", x.clean(-1, 0, 1), Due.BEYOND);
    }

    private static void drops() {
        SpoonRace x = Due.raceOf(WEAK);
        Due.due("drops(0, 0, 0, 0)", x.drops(0, 0, 0, 0), 1);
        Due.due("drops(0, 0, 1, 0)", x.drops(0, 0, 1, 0), 22);
        Due.due("drops(0, 0, 1, 1)", x.drops(0, 0, 1, 1), 2);
        Due.due("drops(0, 5, 2, 0)", x.drops(0, 5, 2, 0), 484);
        Due.due("drops(0, 5, 2, 1)", x.drops(0, 5, 2, 1), 22 * 2 + 2 * 19);
        Due.due("drops(0, 5, 2, 2)", x.drops(0, 5, 2, 2), 10);
        // Shaken for three yards behind the drop, which is on the first, second .. of five.
        Due.due("drops(0, 25, 5, 1)", x.drops(0, 25, 5, 1),
                2 * (19 * 19 * 19 * 22 + 22 * 19 * 19 * 19 + 22 * 22 * 19 * 19
                + 22 * 22 * 22 * 19 + 22 * 22 * 22 * 22));
        Due.due("drops(0, 20, 10, 10)", x.drops(0, 20, 10, 10), 2L * 1953125);
        long all = 0;
        for (int k = 0; k <= 10; k++) {
            all += x.drops(0, 3, 10, k);
        }
        Due.due("all parts", all, 63403380965376L);
        Due.due("none", x.drops(0, 3, 10, 0), x.clean(0, 3, 10));
        int[][] wrong = {{1, 0, 1, 0}, {-1, 0, 1, 0}, {0, -1, 1, 0}, {0, 30, 0, 0}, {0, 29, 2, 0},
            {0, 0, 11, 0}, {0, 0, -1, 0}, {0, 0, 3, 4}, {0, 0, 3, -1},
            {0, 29, Integer.MAX_VALUE, 0}};
        for (int[] w : wrong) {
            Due.due("drops(" + w[0] + ", " + w[1] + ", " + w[2] + ", " + w[3] + ")",
                    x.drops(w[0], w[1], w[2], w[3]), Due.BEYOND);
        }
    }

    private static void mean() {
        SpoonRace x = Due.raceOf(WEAK);
        int[] last = {10083, 13208, 13208, 13208};
        int[] ahead = {20426, 23942, 26416, 26416};
        for (int s = 0; s < 4; s++) {
            Due.due("mean(0, 30, " + s + ")", x.mean(0, 30, s), 0);
            Due.due("mean(0, 29, " + s + ")", x.mean(0, 29, s), last[s]);
            Due.due("mean(0, 28, " + s + ")", x.mean(0, 28, s), ahead[s]);
        }
        x.change(0, 0, 5);
        Due.due("no odds", x.mean(0, 0, 0), 240000);
        Due.due("mean(1, 0, 0)", x.mean(1, 0, 0), Due.BEYOND);
        Due.due("mean(-1, 0, 0)", x.mean(-1, 0, 0), Due.BEYOND);
        Due.due("mean(0, 31, 0)", x.mean(0, 31, 0), Due.BEYOND);
        Due.due("mean(0, -1, 0)", x.mean(0, -1, 0), Due.BEYOND);
        Due.due("mean(0, 0, 4)", x.mean(0, 0, 4), Due.BEYOND);
        Due.due("mean(0, 0, -1)", x.mean(0, 0, -1), Due.BEYOND);
    }

    private static void leastAndBest() {
        SpoonRace x = Due.raceOf(WEAK);
        Due.due("least(0, 30, 0)", x.least(0, 30, 0), 0);
        Due.due("least(0, 29, 0)", x.least(0, 29, 0), 6125);
        Due.due("best(0, 29, 0)", x.best(0, 29, 0), 9);
        // Shaken: odds 6 at pace 9, so 3000 + 6250.
        Due.due("least(0, 29, 3)", x.least(0, 29, 3), 9250);
        // 3000 + (21 * 6125 + 3 * (25000 + 9250)) by 24.
        Due.due("least(0, 28, 0)", x.least(0, 28, 0), 12640);
        // With 84 both 2 (10000 + 3500) and 9 (3000 + 10500) are least.
        x.pick(84);
        Due.due("least of two", x.least(0, 29, 0), 13500);
        Due.due("the least pace of two", x.best(0, 29, 0), 2);
        x.pick(83);
        Due.due("best with 83", x.best(0, 29, 0), 9);
        x.pick(85);
        Due.due("best with 85", x.best(0, 29, 0), 2);
        x.change(0, 1, 9);
        x.change(0, 2, 5);
        Due.due("no odds: quickest", x.best(0, 0, 0), 9);
        Due.due("no odds", x.least(0, 0, 0), 90000);
        Due.due("least(1, 0, 0)", x.least(1, 0, 0), Due.BEYOND);
        Due.due("least(0, 31, 0)", x.least(0, 31, 0), Due.BEYOND);
        Due.due("least(0, -1, 0)", x.least(0, -1, 0), Due.BEYOND);
        Due.due("least(0, 0, 4)", x.least(0, 0, 4), Due.BEYOND);
        Due.due("least(0, 0, -1)", x.least(0, 0, -1), Due.BEYOND);
        Due.due("best(1, 0, 0)", x.best(1, 0, 0), Due.BEYOND);
        Due.due("best(0, 30, 0)", x.best(0, 30, 0), Due.BEYOND);
        Due.due("best(0, -1, 0)", x.best(0, -1, 0), Due.BEYOND);
        Due.due("best(0, 0, 4)", x.best(0, 0, 4), Due.BEYOND);
        Due.due("best(0, 0, -1)", x.best(0, 0, -1), Due.BEYOND);
    }

    private static void train() {
        SpoonRace x = Due.raceOf("runner arm 0; thistle 4 to 8; slick 20; pick 70");
        int[] best = new int[30];
        int others = 0;
        for (int y = 0; y < 30; y++) {
            best[y] = x.best(0, y, 0);
            others += best[y] == 4 ? 0 : 1;
        }
        Due.due("train(0)", x.train(0), others);
        for (int y = 0; y < 30; y++) {
            Due.due("paceOf(0, " + y + ")", x.paceOf(0, y), best[y]);
        }
        Due.due("train(0) again", x.train(0), 0);
        SpoonRace gum = Due.raceOf("gum arm 9 spoon 5; gum");
        gum.pace(0, 3, 7, 9);
        Due.due("all but five", gum.train(0), 25);
        Due.due("the other one's", gum.paceOf(1, 0), 4);
        Due.due("train(2)", gum.train(2), Due.BEYOND);
        Due.due("train(-1)", gum.train(-1), Due.BEYOND);
    }

    private static void even() {
        SpoonRace x = Due.raceOf("gum; runner arm 0 spoon 0; pick 99");
        Due.due("no odds", x.even(0), 9);
        int least = Integer.MAX_VALUE;
        int pace = 0;
        for (int p = 9; p >= 1; p--) {
            x.pace(1, 0, 29, p);
            if (x.mean(1, 0, 0) <= least) {
                least = x.mean(1, 0, 0);
                pace = p;
            }
        }
        Due.due("even(1)", x.even(1), pace);
        Due.due("it is not the quickest", x.even(1), 2);
        x.pace(1, 0, 29, 5);
        Due.due("paces as they are count not", x.even(1), 2);
        Due.due("nothing changed", x.paceOf(1, 17), 5);
        SpoonRace two = Due.raceOf("runner arm 0 spoon 0; pick 66; bump 10 to 29");
        two.pace(0, 0, 29, 9);
        int quick = two.mean(0, 0, 0);
        two.pace(0, 0, 29, 2);
        Due.due("2 and 9 are alike", two.mean(0, 0, 0), quick);
        Due.due("the least pace of two", two.even(0), 2);
        Due.due("even(2)", x.even(2), Due.BEYOND);
        Due.due("even(-1)", x.even(-1), Due.BEYOND);
    }

    private static void costs() {
        SpoonRace x = Due.raceOf(WEAK);
        Due.due("costs(0, 29)", x.costs(0, 29), 25000);
        Due.due("costs(0, 28)", x.costs(0, 28), 25000 + 13208 - 10083);
        Due.due("costs(0, 27)", x.costs(0, 27), 25000 + 26416 - 20426);
        Due.due("costs(0, 30)", x.costs(0, 30), Due.BEYOND);
        Due.due("costs(0, -1)", x.costs(0, -1), Due.BEYOND);
        Due.due("costs(1, 0)", x.costs(1, 0), Due.BEYOND);
        Due.due("costs(-1, 0)", x.costs(-1, 0), Due.BEYOND);
    }

    private static void worst() {
        SpoonRace x = Due.raceOf(WEAK);
        Due.due("all grass: the least number", x.worst(0), 0);
        x.ground(7, 3);
        Due.due("one turn", x.worst(0), 7);
        x.ground(20, 2);
        Due.due("a thistle is worse", x.worst(0), 20);
        x.ground(29, 2);
        Due.due("on the last yard it costs less", x.worst(0), 20);
        Due.due("nothing changed", x.count(3), 27);
        Due.due("worst(1)", x.worst(1), Due.BEYOND);
        Due.due("worst(-1)", x.worst(-1), Due.BEYOND);
    }

    private static void spoon() {
        // With spoon 2 there are no odds: 240000 and 30000; a lesser one drops more than that.
        SpoonRace x = Due.raceOf("runner arm 0 spoon 5; gum arm 9");
        Due.due("spoon(0)", x.spoon(0), 2);
        Due.due("nothing changed", x.of(0, 2), 5);
        Due.due("no odds: the least", x.spoon(1), 0);
        // With spoon 1 odds are 1 on eight thistles, 1875 each; with spoon 2 there are none.
        SpoonRace two = Due.raceOf("runner arm 8; pick 45");
        for (int y = 0; y < 30; y += 4) {
            two.ground(y, 2);
        }
        Due.due("with spoon 1", two.mean(0, 0, 0), 255000);
        Due.due("1 and 2 are alike together: the least", two.spoon(0), 1);
        two.pick(46);
        Due.due("2 is less", two.spoon(0), 2);
        two.pick(44);
        Due.due("1 is less", two.spoon(0), 1);
        SpoonRace near = Due.raceOf("looker arm 2 spoon 0 pace 9; pick 31; bump 16 to 23");
        int without = near.mean(0, 0, 0);
        near.change(0, 2, 1);
        Due.due("one more than a spoon weighs", without - near.mean(0, 0, 0), 15001);
        Due.due("so it is worth it", near.spoon(0), 1);
        Due.due("spoon(2)", x.spoon(2), Due.BEYOND);
        Due.due("spoon(-1)", x.spoon(-1), Due.BEYOND);
    }

    private static void armFor() {
        SpoonRace x = Due.raceOf("runner arm 9 spoon 0");
        Due.due("240000: no odds from arm 4 on", x.armFor(0, 240000), 4);
        Due.due("239999", x.armFor(0, 239999), Due.NONE);
        Due.due("the most", x.armFor(0, 9999999), 0);
        Due.due("0", x.armFor(0, 0), Due.NONE);
        Due.due("nothing changed", x.of(0, 1), 9);
        x.change(0, 1, 2);
        int mean = x.mean(0, 0, 0);
        Due.due("as much", x.armFor(0, mean), 2);
        Due.due("one less", x.armFor(0, mean - 1), 4);
        Due.due("armFor(0, -1)", x.armFor(0, -1), Due.BEYOND);
        Due.due("armFor(0, 10000000)", x.armFor(0, 10000000), Due.BEYOND);
        Due.due("armFor(1, 0)", x.armFor(1, 0), Due.BEYOND);
        Due.due("armFor(-1, 0)", x.armFor(-1, 0), Due.BEYOND);
        Due.due("status(3)", x.status(3), 2);
    }

    private static void nothingChanges() {
        SpoonRace x = Due.raceOf("runner arm 1 spoon 0 pace 7; bump 3 to 9; gum");
        x.steps(9);
        int[] were = all(x);
        x.clean(0, 0, 12);
        x.drops(0, 0, 10, 2);
        x.mean(0, 0, 0);
        x.least(0, 0, 0);
        x.best(0, 0, 0);
        x.even(0);
        x.costs(0, 0);
        x.worst(0);
        x.spoon(0);
        x.armFor(0, 300000);
        x.later(0);
        x.gum(0, 0, 8, 1, 0);
        x.suspect(0, 0, 8);
        x.ahead(60, 0);
        x.winner();
        x.place(0);
        int[] are = all(x);
        for (int i = 0; i < were.length; i++) {
            Due.due("nothing changed, " + i, are[i], were[i]);
        }
    }

    private static int[] all(SpoonRace x) {
        int[] all = new int[84];
        for (int i = 0; i < 8; i++) {
            all[i] = x.count(i);
            all[8 + i] = x.of(0, i);
            all[16 + i] = x.of(1, i);
        }
        for (int y = 0; y < 30; y++) {
            all[24 + y] = x.paceOf(0, y);
            all[54 + y] = x.odds(0, y, 6, 0);
        }
        return all;
    }
}
