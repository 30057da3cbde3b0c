import java.lang.reflect.Method;
import java.util.ArrayList;
import java.util.Arrays;
import java.util.HashMap;
import java.util.List;
import java.util.Map;

/**
 * Calls told as texts ("ground 3 2"), so that several objects can be asked the same and what they
 * hold then be compared. Beside the calls of the face there are "tape TEXT", which feeds it, and
 * "read TEXT", which feeds it and calls text(). MIN and MAX stand for the least and greatest int.
 */
final class Script {
    /** A race that is going on, with something in every place where a call could change something. */
    static final String[] RICH = {
        "runner 3 0 0", "runner 1 9 5", "runner 6 3 2", "pace 0 0 29 6", "pace 1 3 9 8",
        "ground 0 1", "ground 4 2", "ground 29 4", "pick 40", "seed 77", "image",
        "steps 17", "change 1 3 30", "hold 0 2", "hold 9 0",
        "sheet 0 8 3", "write 0 0 7", "write 0 1 8", "write 0 2 9",
        "sheet 1 8 2", "write 1 0 5", "write 1 1 6",
        "sheet 2 16 2", "write 2 0 3", "write 2 1 4",
        "tape pick 3", "of 6 0",
    };

    /** The same with as many runners as there may be. */
    static final String[] RICH_FULL = plus(RICH, "runner 0 4 1", "runner 0 4 1", "runner 5 2 0");

    /** An object is used for so many calls: no test asks more of one. */
    private static final int MOST_CALLS = 512;
    private static final int FINDINGS = 7;
    // Counts, runners, spots, ground, sheets, the tape, the image.
    private static final int PARTS = 7;
    private static final Map<String, Method> METHODS = methods();

    private final SpoonRace x = new SpoonRace();
    private int calls = 0;

    Script(String... calls) {
        for (String call : calls) {
            ask(call);
        }
    }

    private static Map<String, Method> methods() {
        Map<String, Method> methods = new HashMap<>();
        for (Method m : SpoonRace.class.getMethods()) {
            if (m.getDeclaringClass() == SpoonRace.class) {
                methods.put(m.getName(), m);
            }
        }
        return methods;
    }

    static String[] plus(String[] calls, String... more) {
        String[] all = Arrays.copyOf(calls, calls.length + more.length);
        System.arraycopy(more, 0, all, calls.length, more.length);
        return all;
    }

    static String[] calls(String... calls) {
        return calls;
    }

    /** The same call so many times. */
    static String[] times(int n, String call) {
        String[] all = new String[n];
        Arrays.fill(all, call);
        return all;
    }

    long ask(String call) {
        if (call.startsWith("tape ")) {
            return feed(call.substring(5));
        }
        if (call.startsWith("read ")) {
            feed(call.substring(5));
            return ask("text");
        }
        String[] words = call.split(" ");
        Object[] arguments = new Object[words.length - 1];
        for (int i = 0; i < arguments.length; i++) {
            arguments[i] = number(words[i + 1]);
        }
        calls++;
        if (calls > MOST_CALLS) {
            throw new IllegalStateException("more calls than an object is used for: " + call);
        }
        try {
            return ((Number) METHODS.get(words[0]).invoke(x, arguments)).longValue();
        } catch (ReflectiveOperationException e) {
            throw new IllegalStateException(call, e);
        }
    }

    private static int number(String word) {
        if (word.equals("MIN")) {
            return Integer.MIN_VALUE;
        }
        return word.equals("MAX") ? Integer.MAX_VALUE : Integer.parseInt(word);
    }

    private long feed(String text) {
        long answer = 0;
        for (int i = 0; i < text.length(); i += 4) {
            int n = Math.min(4, text.length() - i);
            int bytes = 0;
            for (int j = i; j < i + n; j++) {
                bytes = bytes << 8 | text.charAt(j);
            }
            answer = ask("feed " + bytes + " " + n);
        }
        return answer;
    }

    /**
     * What can be seen of the object but status() and the image; it is used up then. It is looked
     * at from one end and from the other one: what a question itself changes is seen only by
     * those that come behind it.
     */
    private List<String> whole(boolean isBack) {
        List<String> seen = new ArrayList<>();
        for (int part = 0; part < PARTS; part++) {
            seePart(seen, isBack ? PARTS - 1 - part : part, isBack);
        }
        return seen;
    }

    private void seePart(List<String> seen, int part, boolean isBack) {
        switch (part) {
            case 0:
                seeCounts(seen);
                break;
            case 1:
                seeRunners(seen);
                break;
            case 2:
                seeSpots(seen);
                break;
            case 3:
                seeGround(seen);
                break;
            case 4:
                seeSheets(seen, isBack);
                break;
            case 5:
                see(seen, "text");
                see(seen, "pick 25");
                break;
            default:
                see(seen, "tear");
                break;
        }
    }

    private void seeCounts(List<String> seen) {
        for (int what = 0; what < 8; what++) {
            see(seen, "count " + what);
        }
    }

    private void seeSpots(List<String> seen) {
        for (int i = 0; i < 10; i++) {
            see(seen, "as " + i + " 0");
        }
    }

    private void seeSheets(List<String> seen, boolean isBack) {
        // A runner by whom sheets can be looked at, if there was none.
        see(seen, "runner 0 0 0");
        for (int i = 0; i < 4; i++) {
            int s = isBack ? 3 - i : i;
            long came = see(seen, "load " + s + " 0");
            for (int y = 0; y < came; y++) {
                see(seen, "paceOf 0 " + y);
            }
            see(seen, "copy " + s + " 0 0 0 0");
            see(seen, "copy " + s + " 0 2 0 0");
        }
    }

    private void seeRunners(List<String> seen) {
        long runners = ask("count 0");
        for (int r = 0; r < runners; r++) {
            for (int what = 0; what < 8; what++) {
                see(seen, "of " + r + " " + what);
            }
            for (int y = 0; y < 30; y++) {
                see(seen, "paceOf " + r + " " + y);
            }
        }
    }

    private void seeGround(List<String> seen) {
        for (int y = 0; y < 30; y++) {
            see(seen, "ground " + y + " 0");
        }
    }

    private long see(List<String> seen, String call) {
        long answer = ask(call);
        seen.add(call + " answers " + answer);
        return answer;
    }

    private long[] status() {
        long[] status = new long[FINDINGS + 1];
        for (int which = -1; which < FINDINGS; which++) {
            status[which + 1] = ask("status " + which);
        }
        return status;
    }

    private static String told(String[] setup, String call) {
        return String.join("; ", setup) + " .. " + call;
    }

    /** Behind these calls the call answers so, and tells no finding. */
    static void taken(String[] setup, String call, long answer) {
        Script s = new Script(setup);
        long found = s.ask("status -1");
        Due.due(told(setup, call), s.ask(call), answer);
        Due.due(told(setup, call) + ": findings", s.ask("status -1"), found);
    }

    /** Behind these calls the call answers that finding; it is counted, and nothing else changes. */
    static void refused(int finding, String[] setup, String call) {
        Script s = new Script(setup);
        long[] before = s.status();
        Due.due(told(setup, call), s.ask(call), finding);
        long[] behind = s.status();
        for (int i = 0; i < before.length; i++) {
            boolean isCounted = i == 0 || i - 1 == Due.BEYOND - finding;
            Due.due(told(setup, call) + ": status(" + (i - 1) + ")", behind[i] - before[i],
                    isCounted ? 1 : 0);
        }
        same("nothing changed", setup, plus(setup, call));
    }

    /** Behind these calls the call answers so, and nothing changes, status() neither. */
    static void unchanged(String[] setup, String call, long answer) {
        taken(setup, call, answer);
        same("nothing changed", setup, plus(setup, call));
    }

    /** Behind these calls the call changes what these lines tell, and nothing else. */
    static void changes(String[] setup, String call, String... lines) {
        List<String> before = new Script(setup).whole(false);
        List<String> behind = new Script(plus(setup, call)).whole(false);
        Due.due(told(setup, call) + ": how much there is to see", behind.size(), before.size());
        List<String> changed = new ArrayList<>();
        for (int i = 0; i < Math.min(before.size(), behind.size()); i++) {
            if (!before.get(i).equals(behind.get(i))) {
                changed.add(behind.get(i));
            }
        }
        Due.holds(told(setup, call) + " changed " + changed + ", due is "
                + Arrays.toString(lines), changed.equals(Arrays.asList(lines)));
    }

    /** Questions asked of one object, in turn and back, are answered as by one that is asked that alone. */
    static void again(String[] setup, String... questions) {
        Script one = new Script(setup);
        int last = 2 * questions.length - 1;
        for (int i = 0; i <= last; i++) {
            String question = questions[Math.min(i, last - i)];
            Due.due(told(setup, "others .. " + question), one.ask(question),
                    new Script(setup).ask(question));
        }
    }

    /** Both runs of calls leave the same behind, in the image as well. */
    static void same(String what, String[] one, String[] other) {
        compare(what, one, other);
        compare(what + " in the image", plus(one, "undo"), plus(other, "undo"));
    }

    private static void compare(String what, String[] one, String[] other) {
        compare(what, one, other, false);
        compare(what, one, other, true);
    }

    private static void compare(String what, String[] one, String[] other, boolean isBack) {
        List<String> first = new Script(one).whole(isBack);
        List<String> second = new Script(other).whole(isBack);
        Due.due(what + ": how much there is to see behind " + String.join("; ", other),
                second.size(), first.size());
        for (int i = 0; i < Math.min(first.size(), second.size()); i++) {
            Due.holds(what + ", behind " + String.join("; ", other) + ": " + second.get(i)
                    + ", due is: " + first.get(i), first.get(i).equals(second.get(i)));
        }
    }

    /**
     * A number of the call, told as ?, is taken from one to another one, with these answers at
     * both ends, and is BEYOND on both sides of them.
     */
    static void bounds(String[] setup, String call, int least, long atLeast, int most,
            long atMost) {
        taken(setup, with(call, least), atLeast);
        taken(setup, with(call, most), atMost);
        beyond(setup, call, least - 1, most + 1, Integer.MIN_VALUE, Integer.MAX_VALUE);
    }

    static void beyond(String[] setup, String call, int... numbers) {
        for (int number : numbers) {
            refused(Due.BEYOND, setup, with(call, number));
        }
    }

    private static String with(String call, int number) {
        return call.replace("?", Integer.toString(number));
    }
}
