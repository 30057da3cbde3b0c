/** Promises 31 to 37: starts, teams, gum, rain, draws. */
public final class TeamTest {
    public static void main(String[] args) {
        later();
        team();
        teamsOfWeakOnes();
        gum();
        suspect();
        rain();
        seed();
        Due.end();
    }

    private static void later() {
        SpoonRace x = Due.raceOf("gum; gum pace 5; gum pace 9");
        Due.due("the slowest", x.later(0), 0);
        Due.due("later(1)", x.later(1), 30);
        Due.due("later(2)", x.later(2), 150);
        x.runner(0, 0, 0);
        int slow = x.mean(3, 0, 0);
        Due.due("a rest is cut", x.later(0), (slow - 240000) / 1000);
        Due.holds("there is a rest", slow % 1000 != 0);
        Due.due("the slowest then", x.later(3), 0);
        Due.due("later(4)", x.later(4), Due.BEYOND);
        Due.due("later(-1)", x.later(-1), Due.BEYOND);
    }

    private static void team() {
        SpoonRace x = Due.raceOf("gum; gum pace 5; gum pace 6; gum pace 3");
        Due.due("team(7)", x.team(7), 210000);
        for (int i = 0; i < 3; i++) {
            Due.due("least numbers first: leg " + i, x.leg(7, i), i);
        }
        Due.due("team(15): without 3", x.team(15), 210000);
        Due.due("team(13)", x.team(13), 230000);
        Due.due("leg(13, 1)", x.leg(13, 1), 2);
        Due.due("leg(13, 2)", x.leg(13, 2), 3);
        // Each quick on another leg.
        x.pace(0, 20, 29, 9);
        x.pace(2, 0, 9, 9);
        x.pace(3, 10, 19, 9);
        Due.due("team(13) by legs", x.team(13), 90000);
        Due.due("leg 0", x.leg(13, 0), 2);
        Due.due("leg 1", x.leg(13, 1), 3);
        Due.due("leg 2", x.leg(13, 2), 0);
        int[] sets = {0, 3, 8, 12, 16, 31, 23, 71, -1, -8, Integer.MIN_VALUE, Integer.MAX_VALUE};
        for (int set : sets) {
            Due.due("team(" + set + ")", x.team(set), Due.BEYOND);
            Due.due("leg(" + set + ", 0)", x.leg(set, 0), Due.BEYOND);
        }
        Due.due("leg(7, -1)", x.leg(7, -1), Due.BEYOND);
        Due.due("leg(7, 3)", x.leg(7, 3), Due.BEYOND);
    }

    private static void teamsOfWeakOnes() {
        SpoonRace x = Due.raceOf("runner arm 0; runner arm 0; runner arm 0; bump 0; bump 10; bump 20");
        x.change(0, 5, 3);
        x.change(1, 3, 30);
        Due.due("each alone, from the begin of his leg to its end", x.team(7),
                3 * x.mean(0, 20, 0));
        SpoonRace two = Due.raceOf("gum; gum");
        Due.due("no three", two.team(3), Due.BEYOND);
    }

    private static void gum() {
        SpoonRace x = Due.raceOf("runner arm 0 spoon 0");
        Due.due("gum(0, 0, 2, 1, 1)", x.gum(0, 0, 2, 1, 1), 82);
        Due.due("gum(0, 0, 2, 0, 0)", x.gum(0, 0, 2, 0, 0), 576);
        Due.due("gum(0, 0, 2, 1, 0)", x.gum(0, 0, 2, 1, 0), 0);
        Due.due("gum(0, 22, 8, 8, 1)", x.gum(0, 22, 8, 8, 1), 2 * 78125);
        Due.due("kind stays", x.of(0, 0), 0);
        int[][] wrong = {{1, 0, 1, 0, 0}, {-1, 0, 1, 0, 0}, {0, -1, 1, 0, 0}, {0, 30, 1, 0, 0},
            {0, 0, 0, 0, 0}, {0, 0, 9, 0, 0}, {0, 23, 8, 0, 0}, {0, 0, 3, 4, 1}, {0, 0, 3, -1, 1},
            {0, 0, 1, 0, 2}, {0, 0, 1, 0, -1}};
        for (int[] w : wrong) {
            Due.due("gum(" + w[0] + ", " + w[1] + ", " + w[2] + ", " + w[3] + ", " + w[4] + ")",
                    x.gum(w[0], w[1], w[2], w[3], w[4]), Due.BEYOND);
        }
    }

    private static void suspect() {
        // 24 to the 8 is more than twice 22 to the 8, and 24 to the 7 less than twice 22 to the 7.
        SpoonRace x = Due.raceOf("runner arm 0 spoon 0; gum arm 0 spoon 0");
        Due.due("suspect(0, 0, 8)", x.suspect(0, 0, 8), 0);
        Due.due("suspect(0, 0, 7)", x.suspect(0, 0, 7), Due.NONE);
        Due.due("one with gum", x.suspect(1, 0, 8), Due.NONE);
        x.pace(0, 0, 29, 6);
        Due.due("18 for 24: two and a half of them", x.suspect(0, 5, 3), 0);
        Due.due("two", x.suspect(0, 5, 2), Due.NONE);
        Due.due("up to 29", x.suspect(0, 27, 3), 0);
        int[][] wrong = {{2, 0, 1}, {-1, 0, 1}, {0, -1, 1}, {0, 30, 1}, {0, 0, 0}, {0, 0, 9},
            {0, 28, 3}};
        for (int[] w : wrong) {
            Due.due("suspect(" + w[0] + ", " + w[1] + ", " + w[2] + ")",
                    x.suspect(w[0], w[1], w[2]), Due.BEYOND);
        }
        // Odds 8 and 6: 16 times 18 is just half of 24 times 24.
        SpoonRace half = Due.raceOf("runner arm 0 spoon 0 pace 6; turn 0");
        Due.due("just twice", half.suspect(0, 0, 2), 0);
        Due.due("less than twice", half.suspect(0, 1, 2), Due.NONE);
    }

    private static void rain() {
        // Rests from 7 on, by 30 and by 5 in turn: 7 0, 28 3, 20 0, 12 2, 12 4 ..
        SpoonRace x = Due.raceOf("slick 7; bump 20; gum");
        x.seed(7);
        Due.due("rain(1)", x.rain(1), 29);
        Due.due("ground of 7", x.ground(7, 0), 0);
        Due.due("rain(2)", x.rain(2), 29);
        Due.due("ground of 28", x.ground(28, 3), 3);
        Due.due("ground of 20", x.ground(20, 0), 0);
        Due.due("rain(1) more", x.rain(1), 28);
        Due.due("ground of 12", x.ground(12, 2), 2);
        Due.due("z", x.count(6), 2083449087);
        Due.due("rain(0)", x.rain(0), Due.BEYOND);
        Due.due("rain(13)", x.rain(13), Due.BEYOND);
        Due.due("no draw", x.count(6), 2083449087);
        Due.due("rain(12) counts grass", x.rain(12), x.count(3));
    }

    private static void seed() {
        SpoonRace x = new SpoonRace();
        Due.due("seed(7)", x.seed(7), 1);
        Due.due("seed(MIN)", x.seed(Integer.MIN_VALUE), 7);
        Due.due("count(6)", x.count(6), Integer.MIN_VALUE);
        Due.due("seed(LOW)", x.seed(Due.BEYOND), Integer.MIN_VALUE);
        Due.due("what it was is no finding", x.seed(0), Due.BEYOND);
        Due.due("status(-1)", x.status(-1), 0);
    }
}
