import java.util.Arrays;

/**
 * Egg-and-spoon races: a field of yards, runners of kinds, races by draws, and what can be
 * reckoned of them ahead. The words in capitals, here and below, are those of the document.
 */
public final class SpoonRace {
    private static final int LOW = -100000001;

    private static final int BEYOND = 0;
    private static final int FULL = 1;
    private static final int KIND = 2;
    private static final int NONE = 3;
    private static final int STATE = 4;
    private static final int MISSING = 5;
    private static final int SIZE = 6;
    private static final int FINDINGS = 7;

    private static final int YARDS = 30;
    private static final int LEG = 10;
    private static final int LEGS = 3;
    private static final int MOST_GROUND = 4;
    private static final int MOST_PICK = 99;
    private static final int MOST_RUNNERS = 6;
    private static final int MOST_STEPS = YARDS * MOST_RUNNERS;
    private static final int MOST_ARM = 9;
    private static final int MOST_SPOON = 5;
    private static final int MOST_PACE = 9;
    private static final int MOST_SHAKEN = 3;
    private static final int FIRST_ARM = 4;
    private static final int FIRST_SPOON = 1;
    private static final int FIRST_PACE = 4;
    private static final int FIRST_PICK = 25;
    private static final int PARTS = 24;
    private static final int MOST_TIMES = 10;
    private static final int SPOTS = 10;
    private static final int SHEETS = 4;
    private static final int MOST_NUMBERS = 40;
    private static final int MOST_BYTES = 120;
    private static final int MORE_THAN_ANY = 0x7fffffff;

    private static final int STEADY = 1;
    private static final int LOOKER = 2;
    private static final int RUSHER = 3;
    private static final int DANCER = 4;
    private static final int GUM = 5;
    private static final int CHILD = 6;
    private static final int MOST_KIND = 6;

    private static final int[] ROCKS_BY_PACE = {0, 1, 1, 2, 2, 3, 6, 5, 3, 3};
    private static final int[] HURTS_BY_GROUND = {0, 3, 4, 2, 3};

    // By KIND, 0 to 6: what it has beyond a RUNNER, with what the KINDS above it have.
    private static final int[] KIND_ABOVE = {-1, 0, 0, 0, STEADY, STEADY, LOOKER};
    private static final int[] TAKES_MORE = {0, 0, 0, -1, 0, 0, 3};
    private static final int[] ROCKS_MORE = {0, 0, 0, 1, 0, 0, 0};
    private static final int[] HURTS_TIMES = {1, 1, 2, 1, 1, 1, 2};
    private static final int[] HOLDS_MORE = {0, 2, 3, 0, 2, 11, 3};

    private final int[] findings = new int[FINDINGS];
    private final Meet meet = new Meet();
    private final Meet kept = new Meet();
    // What would be is tried on a copy, so that nothing need be put back.
    private final Meet trial = new Meet();
    private final Means means = new Means();
    private final Chances chances = new Chances();
    private final Team quickest = new Team();
    private final Reader reader = new Reader();
    private final Tape tape = reader.tape;
    private final Sheet[] sheets = new Sheet[SHEETS];
    private boolean isKept = false;

    public SpoonRace() {
        for (int i = 0; i < SHEETS; i++) {
            sheets[i] = new Sheet();
        }
    }

    // ---- the field, runners

    public int ground(int yard, int v) {
        if (!isYard(yard) || !within(v, 0, MOST_GROUND)) {
            return found(BEYOND);
        }
        int was = meet.grounds[yard];
        meet.grounds[yard] = v;
        return was;
    }

    public int pick(int v) {
        if (!within(v, 0, MOST_PICK)) {
            return found(BEYOND);
        }
        int was = meet.pickTenths;
        meet.pickTenths = v;
        return was;
    }

    public int runner(int kind, int arm, int spoon) {
        if (!within(kind, 0, MOST_KIND) || !within(arm, 0, MOST_ARM)
                || !within(spoon, 0, MOST_SPOON)) {
            return found(BEYOND);
        }
        if (meet.size >= MOST_RUNNERS) {
            return found(FULL);
        }
        return meet.add(kind, arm, spoon);
    }

    public int of(int runner, int what) {
        if (!isRunner(runner) || !within(what, 0, 7)) {
            return found(BEYOND);
        }
        return meet.runners[runner].tell(what);
    }

    public int change(int runner, int what, int v) {
        if (!isRunner(runner) || !within(v, 0, Runner.mostOf(what))) {
            return found(BEYOND);
        }
        int was = meet.runners[runner].tell(what);
        meet.runners[runner].put(what, v);
        return was;
    }

    public int pace(int runner, int from, int to, int v) {
        if (!isRunner(runner) || !isYard(from) || !isYard(to) || to < from || !isPace(v)) {
            return found(BEYOND);
        }
        int[] paces = meet.runners[runner].paces;
        int others = 0;
        for (int y = from; y <= to; y++) {
            others += paces[y] == v ? 0 : 1;
            paces[y] = v;
        }
        return others;
    }

    public int paceOf(int runner, int yard) {
        if (!isRunner(runner) || !isYard(yard)) {
            return found(BEYOND);
        }
        return meet.runners[runner].paces[yard];
    }

    public int told(int runner, int what, int pace) {
        if (!isRunner(runner) || !within(what, 0, 1) || !isPace(pace)) {
            return found(BEYOND);
        }
        Runner r = meet.runners[runner];
        return what == 0 ? r.takes(pace) : r.rocks(pace);
    }

    public int odds(int runner, int yard, int pace, int shaken) {
        if (!isRunner(runner) || !isYard(yard) || !isPace(pace) || !within(shaken, 0, 1)) {
            return found(BEYOND);
        }
        return meet.oddsOf(meet.runners[runner], yard, pace, shaken, 0);
    }

    public int now(int runner) {
        if (!isRunner(runner)) {
            return found(BEYOND);
        }
        if (meet.runners[runner].isHome()) {
            return found(STATE);
        }
        return meet.oddsInStep(runner);
    }

    public int nerves(int runner) {
        if (!isRunner(runner)) {
            return found(BEYOND);
        }
        return meet.nervesOf(runner);
    }

    // ---- the race

    public int next() {
        int who = meet.whoRuns();
        return who < 0 ? found(NONE) : who;
    }

    public int steps(int n) {
        if (!within(n, 1, MOST_STEPS)) {
            return found(BEYOND);
        }
        return meet.go(n);
    }

    public int start() {
        return meet.restart();
    }

    public int ahead(int n, int what) {
        if (!within(n, 0, MOST_STEPS) || !within(what, 0, 2 + meet.size)) {
            return found(BEYOND);
        }
        trial.become(meet);
        int dropped = trial.go(n);
        switch (what) {
            case 0:
                return trial.homeSet();
            case 1:
                return dropped;
            case 2:
                return trial.whoRuns();
            default:
                return trial.runners[what - 3].time;
        }
    }

    public int winner() {
        if (meet.size == 0) {
            return found(NONE);
        }
        runAllHome();
        return trial.leastInTime();
    }

    public int place(int runner) {
        if (!isRunner(runner)) {
            return found(BEYOND);
        }
        runAllHome();
        return trial.placeOf(runner);
    }

    public int wins(int runner, int n) {
        if (!isRunner(runner) || !within(n, 1, 10)) {
            return found(BEYOND);
        }
        trial.become(meet);
        int won = 0;
        for (int i = 0; i < n; i++) {
            trial.restart();
            trial.go(MOST_STEPS);
            won += trial.leastInTime() == runner ? 1 : 0;
        }
        meet.z = trial.z;
        return won;
    }

    // ---- alone

    public long clean(int runner, int yard, int n) {
        if (!isStretch(runner, yard, n) || !within(n, 0, 12)) {
            return found(BEYOND);
        }
        Runner r = meet.runners[runner];
        long parts = 1;
        for (int y = yard; y < yard + n; y++) {
            parts *= PARTS - meet.oddsOf(r, y, r.paces[y], 0, 0);
        }
        return parts;
    }

    public long drops(int runner, int yard, int n, int k) {
        if (!isStretch(runner, yard, n) || !within(n, 0, MOST_TIMES) || !within(k, 0, n)) {
            return found(BEYOND);
        }
        return chances.ofDrops(meet, runner, yard, n, k);
    }

    public int mean(int runner, int yard, int s) {
        if (!isRunner(runner) || !within(yard, 0, YARDS) || !within(s, 0, MOST_SHAKEN)) {
            return found(BEYOND);
        }
        return means.atPaces(meet, runner, yard, YARDS, s);
    }

    public int least(int runner, int yard, int s) {
        if (!isRunner(runner) || !within(yard, 0, YARDS) || !within(s, 0, MOST_SHAKEN)) {
            return found(BEYOND);
        }
        return means.atBest(meet, runner, yard, s);
    }

    public int best(int runner, int yard, int s) {
        if (!isRunner(runner) || !isYard(yard) || !within(s, 0, MOST_SHAKEN)) {
            return found(BEYOND);
        }
        means.atBest(meet, runner, yard, s);
        return means.chosenPace(yard, s);
    }

    public int train(int runner) {
        if (!isRunner(runner)) {
            return found(BEYOND);
        }
        means.atBest(meet, runner, 0, 0);
        int[] paces = meet.runners[runner].paces;
        int others = 0;
        for (int y = 0; y < YARDS; y++) {
            int chosen = means.chosenPace(y, 0);
            others += paces[y] == chosen ? 0 : 1;
            paces[y] = chosen;
        }
        return others;
    }

    public int even(int runner) {
        if (!isRunner(runner)) {
            return found(BEYOND);
        }
        trial.become(meet);
        int least = MORE_THAN_ANY;
        int evenPace = 1;
        for (int pace = 1; pace <= MOST_PACE; pace++) {
            Arrays.fill(trial.runners[runner].paces, pace);
            int mean = wholeMean(trial, runner);
            if (mean < least) {
                least = mean;
                evenPace = pace;
            }
        }
        return evenPace;
    }

    public int costs(int runner, int yard) {
        if (!isRunner(runner) || !isYard(yard)) {
            return found(BEYOND);
        }
        int shaken = means.atPaces(meet, runner, yard + 1, YARDS, MOST_SHAKEN);
        int calm = means.atPaces(meet, runner, yard + 1, YARDS, 0);
        return 1000 * meet.pickTenths + shaken - calm;
    }

    public int worst(int runner) {
        if (!isRunner(runner)) {
            return found(BEYOND);
        }
        trial.become(meet);
        int least = MORE_THAN_ANY;
        int worstYard = 0;
        for (int y = 0; y < YARDS; y++) {
            trial.grounds[y] = 0;
            int mean = wholeMean(trial, runner);
            trial.grounds[y] = meet.grounds[y];
            if (mean < least) {
                least = mean;
                worstYard = y;
            }
        }
        return worstYard;
    }

    public int spoon(int runner) {
        if (!isRunner(runner)) {
            return found(BEYOND);
        }
        trial.become(meet);
        int least = MORE_THAN_ANY;
        int bestSpoon = 0;
        for (int spoon = 0; spoon <= MOST_SPOON; spoon++) {
            trial.runners[runner].spoon = spoon;
            int together = wholeMean(trial, runner) + 15000 * spoon;
            if (together < least) {
                least = together;
                bestSpoon = spoon;
            }
        }
        return bestSpoon;
    }

    public int armFor(int runner, int v) {
        if (!isRunner(runner) || !within(v, 0, 9999999)) {
            return found(BEYOND);
        }
        trial.become(meet);
        for (int arm = 0; arm <= MOST_ARM; arm++) {
            trial.runners[runner].arm = arm;
            if (wholeMean(trial, runner) <= v) {
                return arm;
            }
        }
        return found(NONE);
    }

    // ---- starts, teams, gum

    public int later(int runner) {
        if (!isRunner(runner)) {
            return found(BEYOND);
        }
        int greatest = 0;
        for (int i = 0; i < meet.size; i++) {
            greatest = Math.max(greatest, wholeMean(meet, i));
        }
        return (greatest - wholeMean(meet, runner)) / 1000;
    }

    public int team(int set) {
        if (!isTeamSet(set)) {
            return found(BEYOND);
        }
        return quickest.choose(meet, means, set);
    }

    public int leg(int set, int i) {
        if (!isTeamSet(set) || !within(i, 0, LEGS - 1)) {
            return found(BEYOND);
        }
        quickest.choose(meet, means, set);
        return quickest.legs[i];
    }

    public long gum(int runner, int yard, int n, int k, int what) {
        if (!isStretch(runner, yard, n) || !within(n, 1, 8) || !within(k, 0, n)
                || !within(what, 0, 1)) {
            return found(BEYOND);
        }
        if (what == 1) {
            return chances.ofDrops(meet, runner, yard, n, k);
        }
        tryGum(runner);
        return chances.ofDrops(trial, runner, yard, n, k);
    }

    public int suspect(int runner, int yard, int n) {
        if (!isStretch(runner, yard, n) || !within(n, 1, 8)) {
            return found(BEYOND);
        }
        tryGum(runner);
        for (int k = n; k >= 0; k--) {
            long withGum = chances.ofDrops(trial, runner, yard, n, k);
            long without = chances.ofDrops(meet, runner, yard, n, k);
            if (withGum > 0 && withGum >= 2 * without) {
                return k;
            }
        }
        return found(NONE);
    }

    public int rain(int n) {
        if (!within(n, 1, 12)) {
            return found(BEYOND);
        }
        for (int i = 0; i < n; i++) {
            int yard = meet.draw() % YARDS;
            meet.grounds[yard] = meet.draw() % (MOST_GROUND + 1);
        }
        return meet.countGrass();
    }

    public int seed(int v) {
        int was = meet.z;
        meet.z = v;
        return was;
    }

    // ---- texts

    public int feed(int bytes, int n) {
        if (!within(n, 1, 4)) {
            return found(BEYOND);
        }
        if (tape.size + n > MOST_BYTES) {
            return found(FULL);
        }
        for (int i = n - 1; i >= 0; i--) {
            tape.put((bytes >>> (8 * i)) & 255);
        }
        return tape.size;
    }

    public int wipe() {
        int was = tape.size;
        tape.size = 0;
        return was;
    }

    public int text() {
        trial.become(meet);
        int answer = reader.readInto(trial);
        if (answer >= 0) {
            meet.become(trial);
        }
        tape.size = 0;
        return answer;
    }

    // ---- spots, sheets

    public int hold(int spot, int runner) {
        if (!isSpot(spot) || (runner != -1 && !isRunner(runner))) {
            return found(BEYOND);
        }
        meet.spots[spot] = runner;
        return 1;
    }

    public int as(int spot, int kind) {
        if (!isSpot(spot) || !within(kind, 0, MOST_KIND)) {
            return found(BEYOND);
        }
        int held = meet.spots[spot];
        if (!isRunner(held)) {
            return found(MISSING);
        }
        return meet.runners[held].isOfKind(kind) ? held : found(KIND);
    }

    public int sheet(int s, int bits, int n) {
        if (!isSheet(s) || (bits != 0 && bits != 8 && bits != 16 && bits != 32)) {
            return found(BEYOND);
        }
        if (n < 0) {
            return found(SIZE);
        }
        if (n > MOST_NUMBERS) {
            return found(BEYOND);
        }
        sheets[s].lay(bits, n);
        return sheets[s].size;
    }

    public int write(int s, int i, int v) {
        if (!isSheet(s)) {
            return found(BEYOND);
        }
        if (sheets[s].isMissing()) {
            return found(MISSING);
        }
        if (!within(i, 0, sheets[s].size - 1)) {
            return found(BEYOND);
        }
        sheets[s].put(i, v);
        return 1;
    }

    public int copy(int s, int from, int t, int to, int n) {
        if (!isSheet(s) || !isSheet(t)) {
            return found(BEYOND);
        }
        Sheet source = sheets[s];
        Sheet target = sheets[t];
        if (source.isMissing() || target.isMissing()) {
            return found(MISSING);
        }
        if (source.bits != target.bits) {
            return found(KIND);
        }
        if (!source.hasRow(from, n) || !target.hasRow(to, n)) {
            return found(BEYOND);
        }
        System.arraycopy(source.numbers, from, target.numbers, to, n);
        return n;
    }

    public int load(int s, int runner) {
        if (!isSheet(s)) {
            return found(BEYOND);
        }
        Sheet source = sheets[s];
        if (source.isMissing()) {
            return found(MISSING);
        }
        if (!isRunner(runner)) {
            return found(BEYOND);
        }
        int most = Math.min(source.size, YARDS);
        int came = 0;
        while (came < most && isPace(source.numbers[came])) {
            meet.runners[runner].paces[came] = source.numbers[came];
            came++;
        }
        return came;
    }

    public int judge(int s) {
        if (!isSheet(s)) {
            return found(BEYOND);
        }
        Sheet film = sheets[s];
        if (film.isMissing()) {
            return found(MISSING);
        }
        trial.become(meet);
        for (int i = 0; i < film.size; i++) {
            int who = trial.whoRuns();
            if (who < 0 || who != film.numbers[i]) {
                return 1 + i;
            }
            trial.step(who);
        }
        return 0;
    }

    // ---- images

    public int image() {
        kept.become(meet);
        isKept = true;
        return 1;
    }

    public int undo() {
        if (!isKept) {
            return found(NONE);
        }
        meet.become(kept);
        return meet.size;
    }

    public int tear() {
        int was = isKept ? 1 : 0;
        isKept = false;
        return was;
    }

    public int count(int what) {
        switch (what) {
            case 0:
                return meet.size;
            case 1:
                return Integer.bitCount(meet.homeSet());
            case 2:
                return meet.countDrops();
            case 3:
                return meet.countGrass();
            case 4:
                return meet.pickTenths;
            case 5:
                return tape.size;
            case 6:
                return meet.z;
            case 7:
                return meet.countHolding();
            default:
                return found(BEYOND);
        }
    }

    public int status(int which) {
        if (!within(which, -1, FINDINGS - 1)) {
            return found(BEYOND);
        }
        if (which >= 0) {
            return findings[which];
        }
        int all = 0;
        for (int i = 0; i < FINDINGS; i++) {
            all += findings[i];
        }
        return all;
    }

    // ---- what the calls share

    private int found(int finding) {
        findings[finding]++;
        return LOW - finding;
    }

    private static boolean within(int v, int least, int most) {
        return v >= least && v <= most;
    }

    private static boolean isYard(int yard) {
        return within(yard, 0, YARDS - 1);
    }

    private static boolean isPace(int pace) {
        return within(pace, 1, MOST_PACE);
    }

    private static boolean isSpot(int spot) {
        return within(spot, 0, SPOTS - 1);
    }

    private static boolean isSheet(int s) {
        return within(s, 0, SHEETS - 1);
    }

    private boolean isRunner(int runner) {
        return within(runner, 0, meet.size - 1);
    }

    private boolean isStretch(int runner, int yard, int n) {
        return isRunner(runner) && isYard(yard) && within(n, 0, YARDS - yard);
    }

    private boolean isTeamSet(int set) {
        return set >= 0 && set >> meet.size == 0 && Integer.bitCount(set) >= LEGS;
    }

    private void runAllHome() {
        trial.become(meet);
        trial.go(MOST_STEPS);
    }

    private void tryGum(int runner) {
        trial.become(meet);
        trial.runners[runner].kind = GUM;
    }

    private int wholeMean(Meet m, int runner) {
        return means.atPaces(m, runner, 0, YARDS, 0);
    }

    /** One RUNNER; what his KIND tells comes from the KIND above but for what it tells itself. */
    private static final class Runner {
        final int[] paces = new int[YARDS];
        int kind;
        int arm;
        int spoon;
        int yard;
        int time;
        int shaken;
        int dropped;

        Runner() {
        }

        void become(Runner other) {
            System.arraycopy(other.paces, 0, paces, 0, YARDS);
            kind = other.kind;
            arm = other.arm;
            spoon = other.spoon;
            yard = other.yard;
            time = other.time;
            shaken = other.shaken;
            dropped = other.dropped;
        }

        void beNew(int newKind, int newArm, int newSpoon) {
            Arrays.fill(paces, FIRST_PACE);
            kind = newKind;
            arm = newArm;
            spoon = newSpoon;
            restart();
        }

        void restart() {
            yard = 0;
            time = 0;
            shaken = 0;
            dropped = 0;
        }

        boolean isHome() {
            return yard >= YARDS;
        }

        boolean isOfKind(int asked) {
            int above = kind;
            for (int i = 0; i <= MOST_KIND && above >= 0; i++) {
                if (above == asked) {
                    return true;
                }
                above = KIND_ABOVE[above];
            }
            return false;
        }

        int takes(int pace) {
            return 12 - pace + TAKES_MORE[kind];
        }

        int rocks(int pace) {
            if (kind == DANCER && pace == 6) {
                return 2;
            }
            return ROCKS_BY_PACE[pace] + ROCKS_MORE[kind];
        }

        int hurts(int ground) {
            return HURTS_BY_GROUND[ground] * HURTS_TIMES[kind];
        }

        int holds() {
            return arm / 2 + spoon + HOLDS_MORE[kind];
        }

        int tell(int what) {
            switch (what) {
                case 0:
                    return kind;
                case 1:
                    return arm;
                case 2:
                    return spoon;
                case 3:
                    return yard;
                case 4:
                    return time;
                case 5:
                    return shaken;
                case 6:
                    return dropped;
                default:
                    return holds();
            }
        }

        void put(int what, int v) {
            switch (what) {
                case 0:
                    kind = v;
                    break;
                case 1:
                    arm = v;
                    break;
                case 2:
                    spoon = v;
                    break;
                case 3:
                    yard = v;
                    break;
                case 5:
                    shaken = v;
                    break;
                default:
                    break;
            }
        }

        /** The greatest that a call may put there; -1 where it may put nothing. */
        static int mostOf(int what) {
            switch (what) {
                case 0:
                    return MOST_KIND;
                case 1:
                    return MOST_ARM;
                case 2:
                    return MOST_SPOON;
                case 3:
                    return YARDS;
                case 5:
                    return MOST_SHAKEN;
                default:
                    return -1;
            }
        }
    }

    /** All that an image keeps: the field, the RUNNERS, SPOTS and z. */
    private static final class Meet {
        final int[] grounds = new int[YARDS];
        final Runner[] runners = new Runner[MOST_RUNNERS];
        final int[] spots = new int[SPOTS];
        int size = 0;
        int pickTenths = FIRST_PICK;
        int z = 1;

        Meet() {
            for (int i = 0; i < MOST_RUNNERS; i++) {
                runners[i] = new Runner();
            }
            Arrays.fill(spots, -1);
        }

        void become(Meet other) {
            System.arraycopy(other.grounds, 0, grounds, 0, YARDS);
            System.arraycopy(other.spots, 0, spots, 0, SPOTS);
            for (int i = 0; i < other.size; i++) {
                runners[i].become(other.runners[i]);
            }
            size = other.size;
            pickTenths = other.pickTenths;
            z = other.z;
        }

        int add(int kind, int arm, int spoon) {
            runners[size].beNew(kind, arm, spoon);
            size++;
            return size - 1;
        }

        int draw() {
            z = z * 1103515245 + 12345;
            return z >>> 8;
        }

        int nervesOf(int runner) {
            int yard = runners[runner].yard;
            int beside = 0;
            for (int i = 0; i < size; i++) {
                if (i != runner && !runners[i].isHome()
                        && Math.abs(runners[i].yard - yard) <= 1) {
                    beside++;
                }
            }
            return beside;
        }

        int oddsOf(Runner r, int yard, int pace, int shaken, int nerves) {
            int shaking = r.rocks(pace) + r.hurts(grounds[yard]) + (shaken > 0 ? 3 : 0) + nerves;
            return Math.max(0, Math.min(PARTS - 1, shaking - r.holds()));
        }

        /** Of one who isn't HOME. */
        int oddsInStep(int runner) {
            Runner r = runners[runner];
            return oddsOf(r, r.yard, r.paces[r.yard], r.shaken, nervesOf(runner));
        }

        /** -1: nobody. */
        int whoRuns() {
            int who = -1;
            for (int i = 0; i < size; i++) {
                if (!runners[i].isHome() && (who < 0 || runners[i].time < runners[who].time)) {
                    who = i;
                }
            }
            return who;
        }

        /** A STEP of one who isn't HOME: 1 if he drops, else 0. */
        int step(int who) {
            Runner r = runners[who];
            int odds = oddsInStep(who);
            boolean drops = odds > 0 && draw() % PARTS < odds;
            r.time += r.takes(r.paces[r.yard]);
            r.yard++;
            if (drops) {
                r.dropped++;
                r.time += pickTenths;
                r.shaken = MOST_SHAKEN;
                return 1;
            }
            r.shaken = Math.max(0, r.shaken - 1);
            return 0;
        }

        /** How many drops in n STEPS, or in fewer if all are HOME. */
        int go(int n) {
            int dropped = 0;
            for (int i = 0; i < n; i++) {
                int who = whoRuns();
                if (who < 0) {
                    break;
                }
                dropped += step(who);
            }
            return dropped;
        }

        /** How many were HOME. */
        int restart() {
            int home = Integer.bitCount(homeSet());
            for (int i = 0; i < size; i++) {
                runners[i].restart();
            }
            return home;
        }

        int homeSet() {
            int set = 0;
            for (int i = 0; i < size; i++) {
                if (runners[i].isHome()) {
                    set |= 1 << i;
                }
            }
            return set;
        }

        /** The RUNNER that nobody is ahead of in TIME; there is one at least. */
        int leastInTime() {
            int first = 0;
            for (int i = 1; i < size; i++) {
                if (runners[i].time < runners[first].time) {
                    first = i;
                }
            }
            return first;
        }

        int placeOf(int runner) {
            int own = runners[runner].time;
            int place = 1;
            for (int i = 0; i < size; i++) {
                int time = runners[i].time;
                if (time < own || (time == own && i < runner)) {
                    place++;
                }
            }
            return place;
        }

        int countDrops() {
            int all = 0;
            for (int i = 0; i < size; i++) {
                all += runners[i].dropped;
            }
            return all;
        }

        int countGrass() {
            int grass = 0;
            for (int i = 0; i < YARDS; i++) {
                grass += grounds[i] == 0 ? 1 : 0;
            }
            return grass;
        }

        int countHolding() {
            int holding = 0;
            for (int i = 0; i < SPOTS; i++) {
                holding += spots[i] >= 0 ? 1 : 0;
            }
            return holding;
        }
    }

    /** MEAN and LEAST, from the last YARD back: a YARD needs no more than the row behind it. */
    private static final class Means {
        private final int[] behind = new int[MOST_SHAKEN + 1];
        private final int[] here = new int[MOST_SHAKEN + 1];
        private final int[] chosen = new int[YARDS * (MOST_SHAKEN + 1)];

        Means() {
        }

        /** MEAN (from, s) as if the YARD end were HOME. */
        int atPaces(Meet m, int runner, int from, int end, int s) {
            Runner r = m.runners[runner];
            Arrays.fill(behind, 0);
            for (int y = end - 1; y >= from; y--) {
                for (int i = 0; i <= MOST_SHAKEN; i++) {
                    here[i] = through(m, r, y, i, r.paces[y]);
                }
                goBack();
            }
            return behind[s];
        }

        /** LEAST (from, s); the PACES by which it comes are chosen then, from that YARD on. */
        int atBest(Meet m, int runner, int from, int s) {
            Runner r = m.runners[runner];
            Arrays.fill(behind, 0);
            for (int y = YARDS - 1; y >= from; y--) {
                for (int i = 0; i <= MOST_SHAKEN; i++) {
                    int pace = bestPace(m, r, y, i);
                    chosen[y * (MOST_SHAKEN + 1) + i] = pace;
                    here[i] = through(m, r, y, i, pace);
                }
                goBack();
            }
            return behind[s];
        }

        int chosenPace(int yard, int s) {
            return chosen[yard * (MOST_SHAKEN + 1) + s];
        }

        private int bestPace(Meet m, Runner r, int y, int s) {
            int least = MORE_THAN_ANY;
            int best = 1;
            for (int pace = 1; pace <= MOST_PACE; pace++) {
                int mean = through(m, r, y, s, pace);
                if (mean < least) {
                    least = mean;
                    best = pace;
                }
            }
            return best;
        }

        private int through(Meet m, Runner r, int y, int s, int pace) {
            int odds = m.oddsOf(r, y, pace, s, 0);
            int held = behind[Math.max(0, s - 1)];
            int dropped = 1000 * m.pickTenths + behind[MOST_SHAKEN];
            return 1000 * r.takes(pace) + ((PARTS - odds) * held + odds * dropped) / PARTS;
        }

        private void goBack() {
            System.arraycopy(here, 0, behind, 0, MOST_SHAKEN + 1);
        }
    }

    /** Parts by which a RUNNER alone drops so many times: a row of times for each SHAKEN. */
    private static final class Chances {
        private static final int ROW = MOST_TIMES + 1;
        private static final int CELLS = (MOST_SHAKEN + 1) * ROW;

        private final long[] parts = new long[CELLS];
        private final long[] ahead = new long[CELLS];

        Chances() {
        }

        long ofDrops(Meet m, int runner, int yard, int n, int k) {
            Runner r = m.runners[runner];
            Arrays.fill(parts, 0L);
            parts[0] = 1;
            for (int y = yard; y < yard + n; y++) {
                System.arraycopy(parts, 0, ahead, 0, CELLS);
                Arrays.fill(parts, 0L);
                for (int s = 0; s <= MOST_SHAKEN; s++) {
                    spread(s, m.oddsOf(r, y, r.paces[y], s, 0), y - yard);
                }
            }
            long sum = 0;
            for (int s = 0; s <= MOST_SHAKEN; s++) {
                sum += parts[s * ROW + k];
            }
            return sum;
        }

        private void spread(int s, int odds, int most) {
            int calmer = Math.max(0, s - 1) * ROW;
            for (int k = 0; k <= most; k++) {
                long whole = ahead[s * ROW + k];
                parts[calmer + k] += whole * (PARTS - odds);
                parts[MOST_SHAKEN * ROW + k + 1] += whole * odds;
            }
        }
    }

    /** The team of a set with the least sum. */
    private static final class Team {
        final int[] legs = new int[LEGS];
        private final int[] legMeans = new int[LEGS * MOST_RUNNERS];
        private int least;

        Team() {
        }

        int choose(Meet m, Means means, int set) {
            for (int i = 0; i < m.size; i++) {
                for (int l = 0; l < LEGS; l++) {
                    legMeans[l * MOST_RUNNERS + i] =
                            means.atPaces(m, i, l * LEG, (l + 1) * LEG, 0);
                }
            }
            least = MORE_THAN_ANY;
            for (int a = 0; a < m.size; a++) {
                for (int b = 0; b < m.size; b++) {
                    for (int c = 0; c < m.size; c++) {
                        if (areUnlikeOf(set, a, b, c)) {
                            weigh(a, b, c);
                        }
                    }
                }
            }
            return least;
        }

        private static boolean areUnlikeOf(int set, int a, int b, int c) {
            int three = 1 << a | 1 << b | 1 << c;
            return Integer.bitCount(three) == LEGS && (set & three) == three;
        }

        private void weigh(int a, int b, int c) {
            int sum = legMeans[a] + legMeans[MOST_RUNNERS + b] + legMeans[2 * MOST_RUNNERS + c];
            if (sum < least) {
                least = sum;
                legs[0] = a;
                legs[1] = b;
                legs[2] = c;
            }
        }
    }

    /** THE TAPE, and the TOKEN of it that is being looked at. */
    private static final class Tape {
        static final int END = 0;
        static final int WORD = 1;
        static final int NUMBER = 2;
        static final int SIGN = 3;
        private static final int BLANK = 4;
        private static final int STRANGE = 5;

        private static final int TOO_GREAT = 1000;

        private final int[] bytes = new int[MOST_BYTES];
        // What a TOKEN that begins with the byte there is.
        private final int[] tokens = new int[MOST_BYTES];
        int size = 0;
        int token = END;
        int begin = 0;
        private int end = 0;

        Tape() {
        }

        /** Where there is room for one more. */
        void put(int b) {
            bytes[size] = b;
            tokens[size] = tokenBegunBy(b);
            size++;
        }

        private static int tokenBegunBy(int b) {
            if (within(b, 'a', 'z')) {
                return WORD;
            }
            if (within(b, '0', '9')) {
                return NUMBER;
            }
            if (b == ' ') {
                return BLANK;
            }
            return b == ';' ? SIGN : STRANGE;
        }

        /** The first TOKEN is looked at. */
        void rewind() {
            end = 0;
            advance();
        }

        /** The TOKEN behind the one that is looked at; behind the last there is END. */
        void advance() {
            begin = end;
            while (begin < size && tokens[begin] == BLANK) {
                begin++;
            }
            token = begin < size ? tokens[begin] : END;
            end = Math.min(begin + 1, size);
            boolean goesOn = token == WORD || token == NUMBER;
            while (goesOn && end < size && tokens[end] == token) {
                end++;
            }
        }

        /** Of a NUMBER; -1: it is none. */
        int value() {
            if (token != NUMBER) {
                return -1;
            }
            int value = 0;
            for (int i = begin; i < end; i++) {
                value = Math.min(TOO_GREAT, value * 10 + bytes[i] - '0');
            }
            return value;
        }

        boolean isWord(String word) {
            if (token != WORD || end - begin != word.length()) {
                return false;
            }
            for (int i = 0; i < word.length(); i++) {
                if (bytes[begin + i] != word.charAt(i)) {
                    return false;
                }
            }
            return true;
        }
    }

    /**
     * Reads a TEXT. A part that can't be read leaves THE TAPE at the TOKEN that can't stand
     * there, whose begin is the FAULT; at the end of THE TAPE that is how many bytes there are.
     */
    private static final class Reader {
        private static final int WRONG = -1;

        final Tape tape = new Tape();

        Reader() {
        }

        /** How many ITEMS, or -1 less the FAULT: then some of them may stand in the meet. */
        int readInto(Meet m) {
            tape.rewind();
            for (int items = 1; items <= MOST_BYTES && readItem(m); items++) {
                if (tape.token == Tape.END) {
                    return items;
                }
                if (tape.token != Tape.SIGN) {
                    break;
                }
                tape.advance();
            }
            return -1 - tape.begin;
        }

        private boolean readItem(Meet m) {
            int ground = groundTold();
            if (ground >= 0) {
                return readGround(m, ground);
            }
            if (tape.isWord("pick")) {
                return readPick(m);
            }
            int kind = kindTold();
            return kind >= 0 && m.size < MOST_RUNNERS && readRunner(m, kind);
        }

        private boolean readGround(Meet m, int ground) {
            int from = numberBehind(0, YARDS - 1);
            if (from == WRONG) {
                return false;
            }
            int to = perhaps("to", from, from, YARDS - 1);
            if (to == WRONG) {
                return false;
            }
            for (int y = from; y <= to; y++) {
                m.grounds[y] = ground;
            }
            return true;
        }

        private boolean readPick(Meet m) {
            int tenths = numberBehind(0, MOST_PICK);
            if (tenths == WRONG) {
                return false;
            }
            m.pickTenths = tenths;
            return true;
        }

        private boolean readRunner(Meet m, int kind) {
            tape.advance();
            int arm = perhaps("arm", FIRST_ARM, 0, MOST_ARM);
            if (arm == WRONG) {
                return false;
            }
            int spoon = perhaps("spoon", FIRST_SPOON, 0, MOST_SPOON);
            if (spoon == WRONG) {
                return false;
            }
            int pace = perhaps("pace", FIRST_PACE, 1, MOST_PACE);
            if (pace == WRONG) {
                return false;
            }
            int number = m.add(kind, arm, spoon);
            Arrays.fill(m.runners[number].paces, pace);
            return true;
        }

        private int perhaps(String word, int otherwise, int least, int most) {
            return tape.isWord(word) ? numberBehind(least, most) : otherwise;
        }

        /** The NUMBER behind the TOKEN that is looked at; THE TAPE goes on behind it. */
        private int numberBehind(int least, int most) {
            tape.advance();
            int number = tape.value();
            if (!within(number, least, most)) {
                return WRONG;
            }
            tape.advance();
            return number;
        }

        private int groundTold() {
            if (tape.isWord("grass")) {
                return 0;
            }
            if (tape.isWord("bump")) {
                return 1;
            }
            if (tape.isWord("thistle")) {
                return 2;
            }
            if (tape.isWord("turn")) {
                return 3;
            }
            return tape.isWord("slick") ? MOST_GROUND : -1;
        }

        private int kindTold() {
            if (tape.isWord("runner")) {
                return 0;
            }
            if (tape.isWord("steady")) {
                return STEADY;
            }
            if (tape.isWord("looker")) {
                return LOOKER;
            }
            if (tape.isWord("rusher")) {
                return RUSHER;
            }
            if (tape.isWord("dancer")) {
                return DANCER;
            }
            if (tape.isWord("gum")) {
                return GUM;
            }
            return tape.isWord("child") ? CHILD : -1;
        }
    }

    /** A row of numbers, of no bits while it is MISSING. */
    private static final class Sheet {
        final int[] numbers = new int[MOST_NUMBERS];
        int bits = 0;
        int size = 0;

        Sheet() {
        }

        boolean isMissing() {
            return bits == 0;
        }

        void lay(int newBits, int n) {
            bits = newBits;
            size = newBits == 0 ? 0 : n;
            Arrays.fill(numbers, 0);
        }

        void put(int i, int v) {
            if (bits == 8) {
                numbers[i] = (byte) v;
            } else if (bits == 16) {
                numbers[i] = (short) v;
            } else {
                numbers[i] = v;
            }
        }

        boolean hasRow(int from, int n) {
            return n >= 0 && from >= 0 && n <= size && from <= size - n;
        }
    }
}
