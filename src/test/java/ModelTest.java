import java.lang.reflect.Method;
import java.util.ArrayList;
import java.util.HashMap;
import java.util.List;
import java.util.Map;
import java.util.Random;

/** Runs of calls, made by a fixed rule, on which SpoonRace and PlainRace must answer alike. */
public final class ModelTest {
    private static final int RUNS = 600;
    private static final int CALLS = 512;

    // Each call with the least and the greatest of each argument, and how often it is asked.
    private static final String[] CALLS_TOLD = {
        "ground 4 0,29 0,4", "pick 1 0,99", "runner 8 0,6 0,9 0,5", "of 6 0,5 0,7",
        "change 8 0,5 0,5 0,9", "change 3 0,5 3,3 0,30", "pace 8 0,5 0,29 0,29 1,9",
        "paceOf 3 0,5 0,29",
        "told 4 0,5 0,1 1,9", "odds 6 0,5 0,29 1,9 0,1", "now 4 0,5", "nerves 4 0,5", "next 2",
        "steps 6 1,9", "steps 1 1,180", "start 1", "ahead 6 0,180 0,8", "winner 2", "place 3 0,5",
        "wins 2 0,5 1,10", "clean 5 0,5 0,29 0,12", "drops 6 0,5 0,29 0,10 0,10",
        "mean 4 0,5 0,30 0,3", "least 4 0,5 0,30 0,3", "best 5 0,5 0,29 0,3", "train 1 0,5",
        "even 2 0,5", "costs 4 0,5 0,29", "worst 1 0,5", "spoon 2 0,5", "armFor 3 0,5 0,500000",
        "later 3 0,5", "team 3 0,63", "leg 5 0,63 0,2", "gum 5 0,5 0,29 1,8 0,8 0,1",
        "suspect 5 0,5 0,29 1,8", "rain 1 1,12", "seed 1 -9,9", "feed 2 0,2147483647 1,4",
        "wipe 1", "text 1", "hold 5 0,9 -1,5", "as 8 0,9 0,6", "sheet 2 0,3 8,8 0,40",
        "sheet 2 0,3 16,16 0,40", "sheet 1 0,3 32,32 0,40", "sheet 1 0,3 0,0 -1,40",
        "write 9 0,3 0,39 0,9", "write 3 0,3 0,5 0,2147483647", "copy 6 0,3 0,20 0,3 0,20 0,20",
        "load 3 0,3 0,5", "judge 4 0,3", "image 1", "undo 1", "tear 1", "count 3 0,7",
        "status 3 -1,6",
    };

    private static final String[] WORDS = {
        "grass", "bump", "thistle", "turn", "slick", "pick", "runner", "steady", "looker", "rusher",
        "dancer", "gum", "child", "arm", "spoon", "pace", "to", ";", ";", ";", " ", "a", "gums", "#",
    };

    private static final Map<String, Method> OWN = methods(SpoonRace.class);
    private static final Map<String, Method> PLAIN = methods(PlainRace.class);

    public static void main(String[] args) throws Exception {
        List<String> bag = new ArrayList<>();
        for (String told : CALLS_TOLD) {
            for (int i = 0; i < Integer.parseInt(told.split(" ")[1]); i++) {
                bag.add(told);
            }
        }
        for (int run = 0; run < RUNS; run++) {
            runOne(run, bag);
        }
        Due.end();
    }

    private static Map<String, Method> methods(Class<?> type) {
        Map<String, Method> methods = new HashMap<>();
        for (Method m : type.getMethods()) {
            if (m.getDeclaringClass() == type) {
                methods.put(m.getName(), m);
            }
        }
        return methods;
    }

    private static void runOne(int run, List<String> bag) throws Exception {
        Random random = new Random(run);
        SpoonRace x = new SpoonRace();
        PlainRace plain = new PlainRace();
        int calls = 0;
        // Some runs begin on an empty field, and some with a text of a whole one.
        if (run % 3 != 0) {
            calls += readBoth(run, x, plain, fieldText(random));
        }
        while (calls < CALLS - 35) {
            if (random.nextInt(40) == 0) {
                calls += readBoth(run, x, plain, anyText(random));
            } else {
                String[] told = bag.get(random.nextInt(bag.size())).split(" ");
                askBoth(run, x, plain, told[0], arguments(random, told));
                calls++;
            }
        }
        for (int what = 0; what < 8; what++) {
            askBoth(run, x, plain, "count", new Object[] {what});
            askBoth(run, x, plain, "status", new Object[] {what - 1});
        }
    }

    private static Object[] arguments(Random random, String[] told) {
        Object[] arguments = new Object[told.length - 2];
        for (int i = 0; i < arguments.length; i++) {
            String[] limits = told[i + 2].split(",");
            int least = Integer.parseInt(limits[0]);
            int most = Integer.parseInt(limits[1]);
            arguments[i] = argument(random, least, most);
        }
        return arguments;
    }

    private static int argument(Random random, int least, int most) {
        switch (random.nextInt(90)) {
            case 0:
                return least - 1;
            case 1:
                return most + 1;
            case 2:
                return random.nextInt();
            case 3:
                return random.nextBoolean() ? Integer.MAX_VALUE : Integer.MIN_VALUE;
            default:
                return (int) (least + (long) (random.nextDouble() * ((long) most - least + 1)));
        }
    }

    private static String fieldText(Random random) {
        StringBuilder text = new StringBuilder();
        int items = 3 + random.nextInt(6);
        for (int i = 0; i < items; i++) {
            text.append(i == 0 ? "" : ";").append(WORDS[random.nextInt(13)]);
            boolean isRunner = text.toString().matches("(?s).*(er|steady|gum|child)");
            if (!isRunner) {
                text.append(random.nextInt(30));
            } else if (random.nextBoolean()) {
                text.append(" pace").append(1 + random.nextInt(9));
            }
        }
        return text.toString();
    }

    private static String anyText(Random random) {
        if (random.nextBoolean()) {
            return fieldText(random);
        }
        StringBuilder text = new StringBuilder();
        int words = 1 + random.nextInt(9);
        for (int i = 0; i < words; i++) {
            text.append(WORDS[random.nextInt(WORDS.length)]);
            if (random.nextInt(3) > 0) {
                text.append(random.nextBoolean() ? " " : "").append(random.nextInt(32));
            }
            text.append(random.nextBoolean() ? " " : "");
        }
        return text.toString();
    }

    private static int readBoth(int run, SpoonRace x, PlainRace plain, String text)
            throws Exception {
        askBoth(run, x, plain, "wipe", new Object[0]);
        int calls = 2;
        for (int i = 0; i < text.length() && i < 120; i += 4) {
            int n = Math.min(4, Math.min(text.length(), 120) - i);
            int bytes = 0;
            for (int j = i; j < i + n; j++) {
                bytes = bytes << 8 | text.charAt(j);
            }
            askBoth(run, x, plain, "feed", new Object[] {bytes, n});
            calls++;
        }
        askBoth(run, x, plain, "text", new Object[0]);
        return calls;
    }

    private static void askBoth(int run, SpoonRace x, PlainRace plain, String name,
            Object[] arguments) throws Exception {
        long got = ((Number) OWN.get(name).invoke(x, arguments)).longValue();
        long want = ((Number) PLAIN.get(name).invoke(plain, arguments)).longValue();
        Due.due("run " + run + ": " + name + java.util.Arrays.toString(arguments), got, want);
    }
}
