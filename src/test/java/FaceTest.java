import java.lang.reflect.Field;
import java.lang.reflect.Method;
import java.lang.reflect.Modifier;
import java.nio.file.Files;
import java.nio.file.Path;
import java.util.Set;
import java.util.TreeSet;
import java.util.regex.Matcher;
import java.util.regex.Pattern;

/** The public face as the document prints it, and the rules of LANGUAGE.md that can be looked at. */
public final class FaceTest {
    private static final String[] FACE = {
        "int ground(int,int)", "int pick(int)", "int runner(int,int,int)", "int of(int,int)",
        "int change(int,int,int)", "int pace(int,int,int,int)", "int paceOf(int,int)",
        "int told(int,int,int)", "int odds(int,int,int,int)", "int now(int)", "int nerves(int)",
        "int next()", "int steps(int)", "int start()", "int ahead(int,int)", "int winner()",
        "int place(int)", "int wins(int,int)", "long clean(int,int,int)",
        "long drops(int,int,int,int)", "int mean(int,int,int)", "int least(int,int,int)",
        "int best(int,int,int)", "int train(int)", "int even(int)", "int costs(int,int)",
        "int worst(int)", "int spoon(int)", "int armFor(int,int)", "int later(int)",
        "int team(int)", "int leg(int,int)", "long gum(int,int,int,int,int)",
        "int suspect(int,int,int)", "int rain(int)", "int seed(int)", "int feed(int,int)",
        "int wipe()", "int text()", "int hold(int,int)", "int as(int,int)",
        "int sheet(int,int,int)", "int write(int,int,int)", "int copy(int,int,int,int,int)",
        "int load(int,int)", "int judge(int)", "int image()", "int undo()", "int tear()",
        "int count(int)", "int status(int)",
    };

    // What a static field may be, and what of the library the program uses.
    private static final Set<String> CONSTANTS =
            Set.of("int", "long", "boolean", "char", "String", "int[]", "long[]", "char[]", "byte[]");
    private static final Set<String> LIBRARY = Set.of("Arrays.fill", "Integer.bitCount",
            "Math.abs", "Math.max", "Math.min", "System.arraycopy");

    public static void main(String[] args) throws Exception {
        face();
        for (Class<?> inside : SpoonRace.class.getDeclaredClasses()) {
            Due.holds(inside + " is static", Modifier.isStatic(inside.getModifiers()));
            Due.holds(inside + " is hidden", !Modifier.isPublic(inside.getModifiers()));
            members(inside);
        }
        members(SpoonRace.class);
        Due.holds("at most twelve classes", SpoonRace.class.getDeclaredClasses().length < 12);
        source(Files.readString(Path.of("src/main/java/SpoonRace.java")));
        Due.end();
    }

    private static void face() {
        Set<String> got = new TreeSet<>();
        for (Method m : SpoonRace.class.getDeclaredMethods()) {
            if (Modifier.isPrivate(m.getModifiers())) {
                continue;
            }
            Due.holds(m + " is public, of the object",
                    m.getModifiers() == Modifier.PUBLIC);
            got.add(told(m));
        }
        Set<String> want = new TreeSet<>(Set.of(FACE));
        Due.holds("the face " + got + " is " + want, got.equals(want));
        Due.due("constructors", SpoonRace.class.getConstructors().length, 1);
        Due.due("constructors in all", SpoonRace.class.getDeclaredConstructors().length, 1);
        Due.due("public fields", SpoonRace.class.getFields().length, 0);
        Due.holds("the class is public and final",
                SpoonRace.class.getModifiers() == (Modifier.PUBLIC | Modifier.FINAL));
        for (Field f : SpoonRace.class.getDeclaredFields()) {
            Due.holds(f + " is private", Modifier.isPrivate(f.getModifiers()));
        }
    }

    private static String told(Method m) {
        StringBuilder told = new StringBuilder();
        for (Class<?> type : m.getParameterTypes()) {
            told.append(told.length() == 0 ? "" : ",").append(type);
        }
        return m.getReturnType() + " " + m.getName() + "(" + told + ")";
    }

    private static void members(Class<?> type) {
        int fields = 0;
        for (Field f : type.getDeclaredFields()) {
            boolean isStatic = Modifier.isStatic(f.getModifiers());
            fields += isStatic ? 0 : 1;
            Due.holds(f + " is final or not static",
                    !isStatic || Modifier.isFinal(f.getModifiers()));
            Due.holds(f + " is a constant or not static",
                    !isStatic || CONSTANTS.contains(f.getType().getSimpleName()));
        }
        Due.holds(type + " has some twenty fields at most", fields <= 20);
        for (Method m : type.getDeclaredMethods()) {
            Due.holds(m + " takes seven at most", m.getParameterCount() <= 7);
            Due.holds(m + " bears no public name",
                    Modifier.isPublic(m.getModifiers()) || !isOfFace(m.getName()));
        }
    }

    private static boolean isOfFace(String name) {
        for (String told : FACE) {
            if (told.contains(" " + name + "(")) {
                return true;
            }
        }
        return false;
    }

    private static void source(String whole) {
        String code = whole.replaceAll("(?s)/\\*.*?\\*/", "").replaceAll("//[^\n]*", "")
                .replaceAll("\"[^\"\n]*\"", "\"\"").replaceAll("'[^'\n]*'", "' '");
        Matcher bad = Pattern.compile("\\b(throw|throws|try|catch|synchronized|assert|package|Exact"
                + "|Object|hashCode|toString|System\\.(?!arraycopy)\\w*)\\b|->|::|\\w+Exact\\b")
                .matcher(code);
        while (bad.find()) {
            Due.holds("'" + bad.group() + "' is not in the program", false);
        }
        library(code);
        Matcher imports = Pattern.compile("import ([^;]*);").matcher(code);
        while (imports.find()) {
            Due.holds("import " + imports.group(1), imports.group(1).equals("java.util.Arrays"));
        }
        Matcher method = Pattern.compile("(?m)^(    |        )(?=\\w)(?!if|for|while|switch)[\\w\\[\\] ]+"
                + "\\([^()]*\\) \\{$(?s:.*?)^\\1\\}$").matcher(code);
        int methods = 0;
        while (method.find()) {
            methods++;
            String[] lines = method.group().split("\n");
            Due.holds("short: " + lines[0], lines.length <= 60);
        }
        Due.holds("the methods are found", methods > 100);
    }

    /** Of other classes only what LANGUAGE.md lists; new are arrays and objects of its own. */
    private static void library(String code) {
        Set<String> own = new TreeSet<>();
        for (Class<?> inside : SpoonRace.class.getDeclaredClasses()) {
            own.add(inside.getSimpleName());
        }
        Matcher used = Pattern.compile("\\b([A-Z][a-z]\\w*)\\.(\\w+)").matcher(code);
        while (used.find()) {
            Due.holds(used.group() + " may be used",
                    own.contains(used.group(1)) || LIBRARY.contains(used.group()));
        }
        Matcher made = Pattern.compile("\\bnew (\\w+)(.)").matcher(code);
        while (made.find()) {
            boolean isRow = made.group(2).equals("[") && Set.of("int", "long").contains(made.group(1));
            Due.holds(made.group() + " may be made", isRow || own.contains(made.group(1)));
        }
    }
}
