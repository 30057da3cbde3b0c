/** Promises 13 to 19: the race. */
public final class RaceTest {
    public static void main(String[] args) {
        nobody();
        nextAndSteps();
        draws();
        nervesInSteps();
        start();
        ahead();
        winnerAndPlace();
        wins();
        Due.end();
    }

    private static void nobody() {
        SpoonRace x = new SpoonRace();
        Due.due("next", x.next(), Due.NONE);
        Due.due("steps(1)", x.steps(1), 0);
        Due.due("start", x.start(), 0);
        Due.due("ahead(0, 0)", x.ahead(0, 0), 0);
        Due.due("ahead(180, 1)", x.ahead(180, 1), 0);
        Due.due("ahead(5, 2)", x.ahead(5, 2), -1);
        Due.due("ahead(0, 3)", x.ahead(0, 3), Due.BEYOND);
        Due.due("winner", x.winner(), Due.NONE);
        Due.due("place(0)", x.place(0), Due.BEYOND);
        Due.due("wins(0, 1)", x.wins(0, 1), Due.BEYOND);
    }

    private static void nextAndSteps() {
        // No odds with gum: 8 tenths for a yard at pace 4, and 7 at pace 5.
        SpoonRace x = Due.raceOf("gum; gum pace 5");
        int[] order = {0, 1, 1, 0, 1, 0};
        for (int i = 0; i < order.length; i++) {
            Due.due("next " + i, x.next(), order[i]);
            Due.due("steps(1)", x.steps(1), 0);
        }
        Due.due("time of 0", x.of(0, 4), 24);
        Due.due("time of 1", x.of(1, 4), 21);
        Due.due("yard of 0", x.of(0, 3), 3);
        Due.due("no draws", x.count(6), 1);
        Due.due("steps(0)", x.steps(0), Due.BEYOND);
        Due.due("steps(-1)", x.steps(-1), Due.BEYOND);
        Due.due("steps(181)", x.steps(181), Due.BEYOND);
        Due.due("steps(180)", x.steps(180), 0);
        Due.due("all home", x.count(1), 2);
        Due.due("whole time of 0", x.of(0, 4), 240);
        Due.due("whole time of 1", x.of(1, 4), 210);
        Due.due("next, all home", x.next(), Due.NONE);
        Due.due("steps, all home", x.steps(5), 0);
        Due.due("time stands", x.of(0, 4), 240);
    }

    private static void draws() {
        // Odds 11, or 14 when shaken; rests of draws by 24: 14 8 12 11 7 12 22 14 4 21 18 12.
        SpoonRace x = Due.raceOf("rusher arm 0 spoon 0 pace 6; thistle 0 to 29");
        int[] drops = {0, 1, 1, 1, 1, 1, 0, 0, 1, 0, 0, 1};
        int[] shaken = {0, 3, 3, 3, 3, 3, 2, 1, 3, 2, 1, 3};
        int time = 0;
        int all = 0;
        for (int i = 0; i < drops.length; i++) {
            Due.due("drops in step " + i, x.steps(1), drops[i]);
            time += 5 + 25 * drops[i];
            all += drops[i];
            Due.due("time", x.of(0, 4), time);
            Due.due("shaken", x.of(0, 5), shaken[i]);
            Due.due("drops of him", x.of(0, 6), all);
            Due.due("drops of all", x.count(2), all);
        }
        Due.due("z", x.count(6), 836760821);
        // From 1 on, with what a drop costs changed: 0 tenths.
        x.seed(1);
        x.start();
        x.pick(0);
        Due.due("steps(9)", x.steps(9), 6);
        Due.due("time", x.of(0, 4), 45);
        Due.due("z", x.count(6), -1084965762);
    }

    private static void nervesInSteps() {
        // The rest of the first draw by 24 is 8; the odds alone are 8, and 9 beside one other.
        int ahead = 1103527590;
        SpoonRace alone = Due.raceOf("runner arm 0 spoon 0 pace 6; turn 0");
        alone.seed(ahead);
        Due.due("8 isn't below 8", alone.steps(1), 0);
        SpoonRace beside = Due.raceOf("runner arm 0 spoon 0 pace 6; turn 0; gum");
        beside.seed(ahead);
        Due.due("8 is below 9", beside.steps(1), 1);
        SpoonRace far = Due.raceOf("runner arm 0 spoon 0 pace 6; turn 0; gum");
        far.seed(ahead);
        far.change(1, 3, 2);
        Due.due("two yards are far", far.steps(1), 0);
    }

    private static void start() {
        SpoonRace x = Due.raceOf("rusher arm 0 spoon 0 pace 6; thistle 0 to 29; gum pace 9");
        x.steps(180);
        Due.holds("he dropped", x.of(0, 6) > 0);
        x.change(0, 3, 29);
        int z = x.count(6);
        Due.due("start: one was home", x.start(), 1);
        for (int what = 3; what < 7; what++) {
            Due.due("of(0, " + what + ")", x.of(0, what), 0);
            Due.due("of(1, " + what + ")", x.of(1, what), 0);
        }
        Due.due("paces stay", x.paceOf(1, 3), 9);
        Due.due("z stays", x.count(6), z);
        Due.due("start again: none was", x.start(), 0);
    }

    private static void ahead() {
        SpoonRace x = Due.raceOf("rusher arm 0 spoon 0 pace 6; thistle 0 to 29");
        Due.due("ahead(0, 0)", x.ahead(0, 0), 0);
        Due.due("ahead(0, 1)", x.ahead(0, 1), 0);
        Due.due("ahead(0, 2)", x.ahead(0, 2), 0);
        Due.due("ahead(0, 3)", x.ahead(0, 3), 0);
        Due.due("ahead(9, 1)", x.ahead(9, 1), 6);
        Due.due("ahead(9, 3)", x.ahead(9, 3), 195);
        Due.due("ahead(29, 0)", x.ahead(29, 0), 0);
        Due.due("ahead(30, 0)", x.ahead(30, 0), 1);
        Due.due("ahead(30, 2)", x.ahead(30, 2), -1);
        Due.due("nothing changed: z", x.count(6), 1);
        Due.due("nothing changed: yard", x.of(0, 3), 0);
        x.steps(1);
        Due.due("drops in them alone", x.ahead(1, 1), 1);
        Due.due("ahead(-1, 0)", x.ahead(-1, 0), Due.BEYOND);
        Due.due("ahead(181, 0)", x.ahead(181, 0), Due.BEYOND);
        Due.due("ahead(0, -1)", x.ahead(0, -1), Due.BEYOND);
        Due.due("ahead(0, 4)", x.ahead(0, 4), Due.BEYOND);
        SpoonRace y = Due.raceOf("gum; gum pace 5; gum pace 9");
        Due.due("home set", y.ahead(59, 0), 4);
        Due.due("who runs then", y.ahead(1, 2), 1);
        Due.due("his time", y.ahead(90, 5), 90);
        Due.due("home set of all", y.ahead(180, 0), 7);
    }

    private static void winnerAndPlace() {
        SpoonRace x = Due.raceOf("gum; gum pace 5; gum; gum pace 5");
        Due.due("winner", x.winner(), 1);
        int[] places = {3, 1, 4, 2};
        for (int i = 0; i < 4; i++) {
            Due.due("place(" + i + ")", x.place(i), places[i]);
        }
        Due.due("nothing changed", x.of(1, 3), 0);
        x.change(3, 3, 29);
        Due.due("from as it is", x.winner(), 3);
        x.change(3, 3, 30);
        Due.due("one home already", x.winner(), 3);
        Due.due("place of 1 then", x.place(1), 2);
        Due.due("place(4)", x.place(4), Due.BEYOND);
        Due.due("place(-1)", x.place(-1), Due.BEYOND);
    }

    private static void wins() {
        SpoonRace x = Due.raceOf("gum; gum pace 5");
        x.steps(7);
        Due.due("wins(1, 10)", x.wins(1, 10), 10);
        Due.due("wins(0, 10)", x.wins(0, 10), 0);
        Due.due("put back", x.of(0, 4), 24);
        Due.due("no draws", x.count(6), 1);
        Due.due("wins(0, 0)", x.wins(0, 0), Due.BEYOND);
        Due.due("wins(0, 11)", x.wins(0, 11), Due.BEYOND);
        Due.due("wins(2, 1)", x.wins(2, 1), Due.BEYOND);
        Due.due("wins(-1, 1)", x.wins(-1, 1), Due.BEYOND);
        String even = "runner arm 0 pace 6; rusher arm 0 pace 8; slick 3 to 20";
        for (int n = 1; n <= 10; n++) {
            SpoonRace one = Due.raceOf(even);
            SpoonRace other = Due.raceOf(even);
            one.steps(17);
            other.steps(17);
            int won = 0;
            for (int i = 0; i < n; i++) {
                other.start();
                won += other.winner() == 0 ? 1 : 0;
                other.steps(180);
            }
            int drops = one.count(2);
            Due.due("wins(0, " + n + ")", one.wins(0, n), won);
            Due.due("z goes on", one.count(6), other.count(6));
            Due.due("the rest is put back", one.count(2), drops);
            Due.due("yard is put back", one.of(0, 3) + one.of(1, 3), 17);
        }
    }
}
