import java.util.ArrayList;
import java.util.Arrays;
import java.util.HashMap;
import java.util.List;
import java.util.Map;
import java.util.regex.Matcher;
import java.util.regex.Pattern;

/**
 * The document once more, in the slowest and plainest form: whole copies, recursion, lists and
 * texts. ModelTest asks this class and SpoonRace the same and wants the same answers.
 */
public final class PlainRace {
    private static final String[] GROUNDS = {"grass", "bump", "thistle", "turn", "slick"};
    private static final String[] KINDS =
        {"runner", "steady", "looker", "rusher", "dancer", "gum", "child"};

    private static class Person {
        int kind;
        int arm = 4;
        int spoon = 1;
        int yard;
        int time;
        int shaken;
        int drops;
        int[] paces = new int[30];

        Person(int kind) {
            this.kind = kind;
            Arrays.fill(paces, 4);
        }

        Person twin() {
            Person p = new Person(kind);
            p.arm = arm;
            p.spoon = spoon;
            p.yard = yard;
            p.time = time;
            p.shaken = shaken;
            p.drops = drops;
            p.paces = paces.clone();
            return p;
        }
    }

    private static class World {
        List<Integer> grounds = new ArrayList<>(java.util.Collections.nCopies(30, 0));
        int pick = 25;
        List<Person> people = new ArrayList<>();
        Integer[] spots = new Integer[10];
        int z = 1;

        World twin() {
            World w = new World();
            w.grounds = new ArrayList<>(grounds);
            w.pick = pick;
            for (Person p : people) {
                w.people.add(p.twin());
            }
            w.spots = spots.clone();
            w.z = z;
            return w;
        }
    }

    private World w = new World();
    private World image = null;
    private final List<Integer> tape = new ArrayList<>();
    private final long[][] sheets = new long[4][];
    private final int[] bits = new int[4];
    private final List<Integer> findings = new ArrayList<>();

    private int tell(int finding) {
        findings.add(finding);
        return -100000001 - finding;
    }

    private int beyond() {
        return tell(0);
    }

    private boolean noRunner(int r) {
        return r < 0 || r >= w.people.size();
    }

    private static boolean out(int v, int from, int to) {
        return v < from || v > to;
    }

    // ---- kinds

    private static int takesOf(int kind, int pace) {
        switch (kind) {
            case 3: return takesOf(0, pace) - 1;
            case 6: return takesOf(2, pace) + 3;
            case 0: return 12 - pace;
            default: return takesOf(above(kind), pace);
        }
    }

    private static int rocksOf(int kind, int pace) {
        switch (kind) {
            case 4: return pace == 6 ? 2 : rocksOf(1, pace);
            case 3: return rocksOf(0, pace) + 1;
            case 0: return "112236533".charAt(pace - 1) - '0';
            default: return rocksOf(above(kind), pace);
        }
    }

    private static int hurtsOf(int kind, int ground) {
        switch (kind) {
            case 2: return 2 * hurtsOf(0, ground);
            case 0: return "03423".charAt(ground) - '0';
            default: return hurtsOf(above(kind), ground);
        }
    }

    private static int holdsOf(int kind, int arm, int spoon) {
        switch (kind) {
            case 1: return holdsOf(0, arm, spoon) + 2;
            case 5: return holdsOf(1, arm, spoon) + 9;
            case 2: return holdsOf(0, arm, spoon) + 3;
            case 0: return arm / 2 + spoon;
            default: return holdsOf(above(kind), arm, spoon);
        }
    }

    private static int above(int kind) {
        return kind == 4 || kind == 5 ? 1 : kind == 6 ? 2 : 0;
    }

    private static int oddsOf(World v, Person p, int yard, int pace, boolean shaken, int nerves) {
        int odds = rocksOf(p.kind, pace) + hurtsOf(p.kind, v.grounds.get(yard)) + nerves;
        odds = odds + (shaken ? 3 : 0) - holdsOf(p.kind, p.arm, p.spoon);
        return odds < 0 ? 0 : odds > 23 ? 23 : odds;
    }

    private static int nervesOf(World v, Person p) {
        int n = 0;
        for (Person q : v.people) {
            boolean near = q.yard == p.yard || q.yard == p.yard - 1 || q.yard == p.yard + 1;
            n += q != p && q.yard != 30 && near ? 1 : 0;
        }
        return n;
    }

    // ---- the field, runners

    public int ground(int yard, int v) {
        return out(yard, 0, 29) || out(v, 0, 4) ? beyond() : w.grounds.set(yard, v);
    }

    public int pick(int v) {
        if (out(v, 0, 99)) {
            return beyond();
        }
        int was = w.pick;
        w.pick = v;
        return was;
    }

    public int runner(int kind, int arm, int spoon) {
        if (out(kind, 0, 6) || out(arm, 0, 9) || out(spoon, 0, 5)) {
            return beyond();
        }
        if (w.people.size() == 6) {
            return tell(1);
        }
        Person p = new Person(kind);
        p.arm = arm;
        p.spoon = spoon;
        w.people.add(p);
        return w.people.size() - 1;
    }

    private static int[] all(Person p) {
        return new int[] {p.kind, p.arm, p.spoon, p.yard, p.time, p.shaken, p.drops,
            holdsOf(p.kind, p.arm, p.spoon)};
    }

    public int of(int runner, int what) {
        return noRunner(runner) || out(what, 0, 7) ? beyond() : all(w.people.get(runner))[what];
    }

    public int change(int runner, int what, int v) {
        int[] most = {6, 9, 5, 30, -1, 3};
        if (noRunner(runner) || out(what, 0, 5) || out(v, 0, most[what])) {
            return beyond();
        }
        Person p = w.people.get(runner);
        int was = all(p)[what];
        p.kind = what == 0 ? v : p.kind;
        p.arm = what == 1 ? v : p.arm;
        p.spoon = what == 2 ? v : p.spoon;
        p.yard = what == 3 ? v : p.yard;
        p.shaken = what == 5 ? v : p.shaken;
        return was;
    }

    public int pace(int runner, int from, int to, int v) {
        if (noRunner(runner) || out(from, 0, 29) || out(to, from, 29) || out(v, 1, 9)) {
            return beyond();
        }
        int[] was = w.people.get(runner).paces.clone();
        Arrays.fill(w.people.get(runner).paces, from, to + 1, v);
        return unlike(was, w.people.get(runner).paces);
    }

    private static int unlike(int[] a, int[] b) {
        int n = 0;
        for (int i = 0; i < a.length; i++) {
            n += a[i] != b[i] ? 1 : 0;
        }
        return n;
    }

    public int paceOf(int runner, int yard) {
        return noRunner(runner) || out(yard, 0, 29) ? beyond() : w.people.get(runner).paces[yard];
    }

    public int told(int runner, int what, int pace) {
        if (noRunner(runner) || out(what, 0, 1) || out(pace, 1, 9)) {
            return beyond();
        }
        int kind = w.people.get(runner).kind;
        return what == 0 ? takesOf(kind, pace) : rocksOf(kind, pace);
    }

    public int odds(int runner, int yard, int pace, int shaken) {
        if (noRunner(runner) || out(yard, 0, 29) || out(pace, 1, 9) || out(shaken, 0, 1)) {
            return beyond();
        }
        return oddsOf(w, w.people.get(runner), yard, pace, shaken == 1, 0);
    }

    public int now(int runner) {
        if (noRunner(runner)) {
            return beyond();
        }
        Person p = w.people.get(runner);
        return p.yard == 30 ? tell(4)
            : oddsOf(w, p, p.yard, p.paces[p.yard], p.shaken > 0, nervesOf(w, p));
    }

    public int nerves(int runner) {
        return noRunner(runner) ? beyond() : nervesOf(w, w.people.get(runner));
    }

    // ---- the race

    private static int draw(World v) {
        v.z = (int) ((long) v.z * 1103515245L + 12345L);
        return v.z >>> 8;
    }

    private static int who(World v) {
        return v.people.stream().filter(p -> p.yard < 30)
            .min(java.util.Comparator.comparingInt(p -> p.time))
            .map(v.people::indexOf).orElse(-1);
    }

    private static int run(World v, int n) {
        int drops = 0;
        for (int i = 0; i < n && who(v) >= 0; i++) {
            Person p = v.people.get(who(v));
            int odds = oddsOf(v, p, p.yard, p.paces[p.yard], p.shaken > 0, nervesOf(v, p));
            p.time += takesOf(p.kind, p.paces[p.yard]);
            p.yard += 1;
            if (odds > 0 && draw(v) % 24 < odds) {
                drops++;
                p.drops++;
                p.time += v.pick;
                p.shaken = 3;
            } else if (p.shaken > 0) {
                p.shaken--;
            }
        }
        return drops;
    }

    private static int begin(World v) {
        int home = 0;
        for (Person p : v.people) {
            home += p.yard == 30 ? 1 : 0;
            p.yard = 0;
            p.time = 0;
            p.shaken = 0;
            p.drops = 0;
        }
        return home;
    }

    public int next() {
        return who(w) < 0 ? tell(3) : who(w);
    }

    public int steps(int n) {
        return out(n, 1, 180) ? beyond() : run(w, n);
    }

    public int start() {
        return begin(w);
    }

    public int ahead(int n, int what) {
        if (out(n, 0, 180) || what < 0 || what > 2 && noRunner(what - 3)) {
            return beyond();
        }
        World v = w.twin();
        int drops = run(v, n);
        int home = 0;
        for (int i = 0; i < v.people.size(); i++) {
            home += v.people.get(i).yard == 30 ? (int) Math.pow(2, i) : 0;
        }
        return what == 0 ? home : what == 1 ? drops : what == 2 ? who(v) : v.people.get(what - 3).time;
    }

    private static List<Integer> order(World v) {
        run(v, 1000);
        List<Integer> order = new ArrayList<>();
        for (int i = 0; i < v.people.size(); i++) {
            order.add(i);
        }
        order.sort(java.util.Comparator.comparingInt(i -> v.people.get(i).time));
        return order;
    }

    public int winner() {
        return w.people.isEmpty() ? tell(3) : order(w.twin()).get(0);
    }

    public int place(int runner) {
        return noRunner(runner) ? beyond() : order(w.twin()).indexOf(runner) + 1;
    }

    public int wins(int runner, int n) {
        if (noRunner(runner) || out(n, 1, 10)) {
            return beyond();
        }
        int wins = 0;
        for (int i = 0; i < n; i++) {
            World v = w.twin();
            begin(v);
            wins += order(v).get(0) == runner ? 1 : 0;
            w.z = v.z;
        }
        return wins;
    }

    // ---- alone

    private static long parts(World v, Person p, int yard, int end, int shaken, int k) {
        if (yard == end || k < 0) {
            return k == 0 ? 1 : 0;
        }
        int odds = oddsOf(v, p, yard, p.paces[yard], shaken > 0, 0);
        return (24 - odds) * parts(v, p, yard + 1, end, Math.max(shaken - 1, 0), k)
            + odds * parts(v, p, yard + 1, end, 3, k - 1);
    }

    public long clean(int runner, int yard, int n) {
        if (noRunner(runner) || out(yard, 0, 29) || out(n, 0, 12) || yard + n > 30) {
            return beyond();
        }
        return parts(w, w.people.get(runner), yard, yard + n, 0, 0);
    }

    public long drops(int runner, int yard, int n, int k) {
        if (noRunner(runner) || out(yard, 0, 29) || out(n, 0, 10) || yard + n > 30 || out(k, 0, n)) {
            return beyond();
        }
        return parts(w, w.people.get(runner), yard, yard + n, 0, k);
    }

    private static int meanOf(World v, Person p, int y, int s, int end, Map<Integer, Integer> known) {
        if (y == end) {
            return 0;
        }
        if (!known.containsKey(4 * y + s)) {
            int odds = oddsOf(v, p, y, p.paces[y], s > 0, 0);
            int held = meanOf(v, p, y + 1, Math.max(s - 1, 0), end, known);
            int dropped = 1000 * v.pick + meanOf(v, p, y + 1, 3, end, known);
            known.put(4 * y + s, 1000 * takesOf(p.kind, p.paces[y])
                + ((24 - odds) * held + odds * dropped) / 24);
        }
        return known.get(4 * y + s);
    }

    private static int meanOf(World v, Person p) {
        return meanOf(v, p, 0, 0, 30, new HashMap<>());
    }

    /** LEAST and the PACE by which it comes. */
    private static int[] leastOf(World v, Person p, int y, int s, Map<Integer, int[]> known) {
        if (y == 30) {
            return new int[] {0, 0};
        }
        if (!known.containsKey(4 * y + s)) {
            int[] best = null;
            for (int pace = 9; pace >= 1; pace--) {
                int odds = oddsOf(v, p, y, pace, s > 0, 0);
                int held = leastOf(v, p, y + 1, Math.max(s - 1, 0), known)[0];
                int dropped = 1000 * v.pick + leastOf(v, p, y + 1, 3, known)[0];
                int sum = 1000 * takesOf(p.kind, pace) + ((24 - odds) * held + odds * dropped) / 24;
                best = best == null || sum <= best[0] ? new int[] {sum, pace} : best;
            }
            known.put(4 * y + s, best);
        }
        return known.get(4 * y + s);
    }

    public int mean(int runner, int yard, int s) {
        return noRunner(runner) || out(yard, 0, 30) || out(s, 0, 3) ? beyond()
            : meanOf(w, w.people.get(runner), yard, s, 30, new HashMap<>());
    }

    public int least(int runner, int yard, int s) {
        return noRunner(runner) || out(yard, 0, 30) || out(s, 0, 3) ? beyond()
            : leastOf(w, w.people.get(runner), yard, s, new HashMap<>())[0];
    }

    public int best(int runner, int yard, int s) {
        return noRunner(runner) || out(yard, 0, 29) || out(s, 0, 3) ? beyond()
            : leastOf(w, w.people.get(runner), yard, s, new HashMap<>())[1];
    }

    public int train(int runner) {
        if (noRunner(runner)) {
            return beyond();
        }
        int[] paces = new int[30];
        for (int y = 0; y < 30; y++) {
            paces[y] = leastOf(w, w.people.get(runner), y, 0, new HashMap<>())[1];
        }
        int n = unlike(paces, w.people.get(runner).paces);
        w.people.get(runner).paces = paces;
        return n;
    }

    /** The place of the first of the least ones. */
    private static int leastOf(List<Integer> sums) {
        return sums.indexOf(java.util.Collections.min(sums));
    }

    public int even(int runner) {
        if (noRunner(runner)) {
            return beyond();
        }
        List<Integer> sums = new ArrayList<>();
        for (int pace = 1; pace <= 9; pace++) {
            Person p = w.people.get(runner).twin();
            Arrays.fill(p.paces, pace);
            sums.add(meanOf(w, p));
        }
        return 1 + leastOf(sums);
    }

    public int costs(int runner, int yard) {
        if (noRunner(runner) || out(yard, 0, 29)) {
            return beyond();
        }
        Person p = w.people.get(runner);
        return 1000 * w.pick + meanOf(w, p, yard + 1, 3, 30, new HashMap<>())
            - meanOf(w, p, yard + 1, 0, 30, new HashMap<>());
    }

    public int worst(int runner) {
        if (noRunner(runner)) {
            return beyond();
        }
        List<Integer> sums = new ArrayList<>();
        for (int y = 0; y < 30; y++) {
            World v = w.twin();
            v.grounds.set(y, 0);
            sums.add(meanOf(v, v.people.get(runner)));
        }
        return leastOf(sums);
    }

    public int spoon(int runner) {
        if (noRunner(runner)) {
            return beyond();
        }
        List<Integer> sums = new ArrayList<>();
        for (int spoon = 0; spoon <= 5; spoon++) {
            Person p = w.people.get(runner).twin();
            p.spoon = spoon;
            sums.add(meanOf(w, p) + 15000 * spoon);
        }
        return leastOf(sums);
    }

    public int armFor(int runner, int v) {
        if (noRunner(runner) || out(v, 0, 9999999)) {
            return beyond();
        }
        for (int arm = 0; arm <= 9; arm++) {
            Person p = w.people.get(runner).twin();
            p.arm = arm;
            if (meanOf(w, p) <= v) {
                return arm;
            }
        }
        return tell(3);
    }

    // ---- starts, teams, gum

    public int later(int runner) {
        if (noRunner(runner)) {
            return beyond();
        }
        int most = w.people.stream().mapToInt(p -> meanOf(w, p)).max().getAsInt();
        return (most - meanOf(w, w.people.get(runner))) / 1000;
    }

    private boolean noTeam(int set) {
        return set < 0 || set >= Math.pow(2, w.people.size()) || Integer.bitCount(set) < 3;
    }

    /** The sum and who runs which leg. */
    private int[] teamOf(int set) {
        int[] best = null;
        for (int i = 0; i < 216; i++) {
            int[] legs = {i / 36, i / 6 % 6, i % 6};
            boolean unlike = legs[0] != legs[1] && legs[0] != legs[2] && legs[1] != legs[2];
            int sum = 0;
            for (int l = 0; l < 3; l++) {
                boolean in = (set >> legs[l] & 1) == 1;
                sum += in && unlike ? meanOf(w, w.people.get(legs[l]), 10 * l, 0, 10 * l + 10,
                    new HashMap<>()) : 100000000;
            }
            if (best == null || sum < best[0]) {
                best = new int[] {sum, legs[0], legs[1], legs[2]};
            }
        }
        return best;
    }

    public int team(int set) {
        return noTeam(set) ? beyond() : teamOf(set)[0];
    }

    public int leg(int set, int i) {
        return noTeam(set) || out(i, 0, 2) ? beyond() : teamOf(set)[1 + i];
    }

    public long gum(int runner, int yard, int n, int k, int what) {
        if (noRunner(runner) || out(yard, 0, 29) || out(n, 1, 8) || yard + n > 30 || out(k, 0, n)
            || out(what, 0, 1)) {
            return beyond();
        }
        Person p = w.people.get(runner).twin();
        p.kind = what == 0 ? 5 : p.kind;
        return parts(w, p, yard, yard + n, 0, k);
    }

    public int suspect(int runner, int yard, int n) {
        if (noRunner(runner) || out(yard, 0, 29) || out(n, 1, 8) || yard + n > 30) {
            return beyond();
        }
        int greatest = -1;
        for (int k = 0; k <= n; k++) {
            long with = gum(runner, yard, n, k, 0);
            long without = gum(runner, yard, n, k, 1);
            greatest = with > 0 && with >= 2 * without ? k : greatest;
        }
        return greatest < 0 ? tell(3) : greatest;
    }

    public int rain(int n) {
        if (out(n, 1, 12)) {
            return beyond();
        }
        for (int i = 0; i < n; i++) {
            int yard = draw(w) % 30;
            w.grounds.set(yard, draw(w) % 5);
        }
        return count(3);
    }

    public int seed(int v) {
        int was = w.z;
        w.z = v;
        return was;
    }

    // ---- texts

    public int feed(int bytes, int n) {
        if (out(n, 1, 4)) {
            return beyond();
        }
        if (tape.size() + n > 120) {
            return tell(1);
        }
        int at = tape.size();
        for (int i = 0; i < n; i++) {
            tape.add(at, bytes & 255);
            bytes = bytes >> 8;
        }
        return tape.size();
    }

    public int wipe() {
        int n = tape.size();
        tape.clear();
        return n;
    }

    public int text() {
        StringBuilder whole = new StringBuilder();
        for (int b : tape) {
            whole.append((char) b);
        }
        tape.clear();
        List<String> tokens = new ArrayList<>();
        List<Integer> places = new ArrayList<>();
        Matcher m = Pattern.compile("(?s)[a-z]+|[0-9]+|[^ ]").matcher(whole);
        while (m.find()) {
            tokens.add(m.group());
            places.add(m.start());
        }
        tokens.add("");
        places.add(whole.length());
        World v = w.twin();
        int at = 0;
        int items = 0;
        while (true) {
            int end = item(v, tokens, at);
            if (end < 0) {
                return -1 - places.get(-1 - end);
            }
            items++;
            if (tokens.get(end).isEmpty()) {
                w = v;
                return items;
            }
            if (!tokens.get(end).equals(";")) {
                return -1 - places.get(end);
            }
            at = end + 1;
        }
    }

    /** Where the ITEM ends, or -1 less which TOKEN can't stand there. */
    private static int item(World v, List<String> tokens, int at) {
        String word = tokens.get(at);
        int ground = Arrays.asList(GROUNDS).indexOf(word);
        int kind = Arrays.asList(KINDS).indexOf(word);
        if (word.equals("pick")) {
            if (wrong(tokens.get(at + 1), 0, 99)) {
                return -1 - (at + 1);
            }
            v.pick = Integer.parseInt(tokens.get(at + 1));
            return at + 2;
        }
        if (ground >= 0) {
            if (wrong(tokens.get(at + 1), 0, 29)) {
                return -1 - (at + 1);
            }
            int from = Integer.parseInt(tokens.get(at + 1));
            boolean more = tokens.get(at + 2).equals("to");
            if (more && wrong(tokens.get(at + 3), from, 29)) {
                return -1 - (at + 3);
            }
            int to = more ? Integer.parseInt(tokens.get(at + 3)) : from;
            for (int y = from; y <= to; y++) {
                v.grounds.set(y, ground);
            }
            return more ? at + 4 : at + 2;
        }
        if (kind < 0 || v.people.size() == 6) {
            return -1 - at;
        }
        return person(v, tokens, at + 1, new Person(kind));
    }

    private static int person(World v, List<String> tokens, int at, Person p) {
        v.people.add(p);
        int[][] limits = {{0, 9}, {0, 5}, {1, 9}};
        String[] words = {"arm", "spoon", "pace"};
        for (int i = 0; i < 3; i++) {
            if (!tokens.get(at).equals(words[i])) {
                continue;
            }
            if (wrong(tokens.get(at + 1), limits[i][0], limits[i][1])) {
                return -1 - (at + 1);
            }
            int n = Integer.parseInt(tokens.get(at + 1));
            p.arm = i == 0 ? n : p.arm;
            p.spoon = i == 1 ? n : p.spoon;
            if (i == 2) {
                Arrays.fill(p.paces, n);
            }
            at += 2;
        }
        return at;
    }

    private static boolean wrong(String token, int from, int to) {
        return !token.matches("0*[0-9]{1,3}") || out(Integer.parseInt(token), from, to);
    }

    // ---- spots, sheets

    public int hold(int spot, int runner) {
        if (out(spot, 0, 9) || runner != -1 && noRunner(runner)) {
            return beyond();
        }
        w.spots[spot] = runner == -1 ? null : runner;
        return 1;
    }

    public int as(int spot, int kind) {
        if (out(spot, 0, 9) || out(kind, 0, 6)) {
            return beyond();
        }
        if (w.spots[spot] == null) {
            return tell(5);
        }
        int own = w.people.get(w.spots[spot]).kind;
        boolean is = own == kind || above(own) == kind || kind == 0;
        return is ? w.spots[spot] : tell(2);
    }

    public int sheet(int s, int bits, int n) {
        if (out(s, 0, 3) || !Arrays.asList(0, 8, 16, 32).contains(bits)) {
            return beyond();
        }
        if (n < 0) {
            return tell(6);
        }
        if (n > 40) {
            return beyond();
        }
        this.bits[s] = bits;
        sheets[s] = bits == 0 ? null : new long[n];
        return bits == 0 ? 0 : n;
    }

    public int write(int s, int i, int v) {
        if (out(s, 0, 3)) {
            return beyond();
        }
        if (sheets[s] == null) {
            return tell(5);
        }
        if (out(i, 0, sheets[s].length - 1)) {
            return beyond();
        }
        sheets[s][i] = v & (1L << bits[s]) - 1;
        return 1;
    }

    public int copy(int s, int from, int t, int to, int n) {
        if (out(s, 0, 3) || out(t, 0, 3)) {
            return beyond();
        }
        if (sheets[s] == null || sheets[t] == null) {
            return tell(5);
        }
        if (bits[s] != bits[t]) {
            return tell(2);
        }
        if (from < 0 || to < 0 || n < 0 || (long) from + n > sheets[s].length
            || (long) to + n > sheets[t].length) {
            return beyond();
        }
        long[] were = sheets[s].clone();
        for (int i = 0; i < n; i++) {
            sheets[t][to + i] = were[from + i];
        }
        return n;
    }

    public int load(int s, int runner) {
        if (out(s, 0, 3)) {
            return beyond();
        }
        if (sheets[s] == null) {
            return tell(5);
        }
        if (noRunner(runner)) {
            return beyond();
        }
        int came = 0;
        for (long number : sheets[s]) {
            if (number < 1 || number > 9 || came == 30) {
                break;
            }
            w.people.get(runner).paces[came] = (int) number;
            came++;
        }
        return came;
    }

    public int judge(int s) {
        if (out(s, 0, 3)) {
            return beyond();
        }
        if (sheets[s] == null) {
            return tell(5);
        }
        for (int i = 0; i < sheets[s].length; i++) {
            World v = w.twin();
            run(v, i);
            if (who(v) < 0 || who(v) != sheets[s][i]) {
                return 1 + i;
            }
        }
        return 0;
    }

    // ---- images

    public int image() {
        image = w.twin();
        return 1;
    }

    public int undo() {
        if (image == null) {
            return tell(3);
        }
        w = image.twin();
        return w.people.size();
    }

    public int tear() {
        int was = image == null ? 0 : 1;
        image = null;
        return was;
    }

    public int count(int what) {
        switch (what) {
            case 0: return w.people.size();
            case 1: return (int) w.people.stream().filter(p -> p.yard == 30).count();
            case 2: return w.people.stream().mapToInt(p -> p.drops).sum();
            case 3: return java.util.Collections.frequency(w.grounds, 0);
            case 4: return w.pick;
            case 5: return tape.size();
            case 6: return w.z;
            case 7: return (int) Arrays.stream(w.spots).filter(s -> s != null).count();
            default: return beyond();
        }
    }

    public int status(int which) {
        if (out(which, -1, 6)) {
            return beyond();
        }
        return which == -1 ? findings.size() : java.util.Collections.frequency(findings, which);
    }
}
