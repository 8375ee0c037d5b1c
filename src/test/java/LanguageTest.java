import java.lang.reflect.Field;
import java.lang.reflect.Method;
import java.lang.reflect.Modifier;
import java.nio.file.Files;
import java.nio.file.Path;
import java.util.ArrayList;
import java.util.Arrays;
import java.util.List;
import java.util.Set;
import java.util.TreeSet;
import java.util.regex.Matcher;
import java.util.regex.Pattern;

/** The face of the class, and what of LANGUAGE.md can be seen without a compiler's help. */
public final class LanguageTest {
    private static final String[] FACE = {"int drum(int,int,int)", "int lamp(int)", "int eye(int)", "int type(int)",
        "int clear()", "int read()", "int spins(int)", "int steps(int)", "int draws(int,int)", "int undo()",
        "int of(int,int)", "int drawn(int)", "int at(int)", "int sees(int,int)", "int round()", "int still(int)",
        "int most(int,int,int)", "int smooth(int)", "int seen(int,int)", "int began(int)", "int tell()",
        "int note(int,int,int,int)", "int mark(int,int,int)", "int forget(int)", "int is(int)", "int look(int)",
        "int kinds()", "int ask()", "int hands(int,int,int)", "int smear(int,int,int,int)", "int nights(int,int)",
        "long part(int)", "int image(int)", "int from(int)", "int status(int)", "int count(int)", "long digest()"};
    private static final String[] NEVER = {"\\bthrow\\b", "\\bthrows\\b", "\\btry\\b", "\\bcatch\\b", "\\bfinally\\b",
        "\\bsynchronized\\b", "\\bassert\\b", "\\bimport\\b", "\\bpackage\\b", "->", "::", "\\bInteger\\.", "Exact\\(",
        "\\bstatic \\{", "\\bObject\\b", "\\bprotected\\b", "\\bhashCode\\b", "\\btoString\\b", "\\bvar\\b"};
    private static int wrong = 0;

    private static void right(boolean so, String what) {
        if (!so) {
            wrong++;
            System.out.println("LanguageTest: " + what);
        }
    }

    public static void main(String[] args) throws Exception {
        face();
        List<Class<?>> all = new ArrayList<>(Arrays.asList(ZoeStrips.class.getDeclaredClasses()));
        right(all.size() + 1 <= 12, "more than twelve classes");
        for (Class<?> c : all) right(Modifier.isStatic(c.getModifiers()), c + " is not static");
        all.add(ZoeStrips.class);
        for (Class<?> c : all) members(c);
        source(Files.readAllLines(Path.of("src/main/java/ZoeStrips.java")));
        System.out.println(wrong == 0 ? "LanguageTest: nothing against the rules" : "LanguageTest: " + wrong + " wrong");
        if (wrong != 0) System.exit(1);
    }

    private static void face() {
        Set<String> want = new TreeSet<>(Arrays.asList(FACE)), got = new TreeSet<>();
        for (Method m : ZoeStrips.class.getDeclaredMethods()) {
            if (Modifier.isPrivate(m.getModifiers())) continue;
            List<String> types = new ArrayList<>();
            for (Class<?> t : m.getParameterTypes()) types.add(t.getName());
            got.add(m.getReturnType() + " " + m.getName() + "(" + String.join(",", types) + ")");
        }
        right(got.equals(want), "the face is " + got);
        Set<String> constants = new TreeSet<>();
        for (Field f : ZoeStrips.class.getDeclaredFields()) {
            if (!Modifier.isPrivate(f.getModifiers())) constants.add(f.getName());
        }
        right(constants.equals(Set.of("NONE", "BAD", "NO", "FULL")), "the constants are " + constants);
        right(Modifier.isFinal(ZoeStrips.class.getModifiers()), "the class is not final");
    }

    private static void members(Class<?> c) {
        Set<String> names = new TreeSet<>();
        for (String line : FACE) names.add(line.substring(line.indexOf(' ') + 1, line.indexOf('(')));
        int fields = 0;
        for (Field f : c.getDeclaredFields()) {
            if (Modifier.isStatic(f.getModifiers())) right(Modifier.isFinal(f.getModifiers()), f + " is not final");
            else fields++;
        }
        right(fields <= 20, c + " has " + fields + " fields");
        for (Method m : c.getDeclaredMethods()) {
            boolean ofTheFace = c == ZoeStrips.class && Modifier.isPublic(m.getModifiers());
            right(ofTheFace || !names.contains(m.getName()), m + " bears a public name");
            right(m.getParameterCount() <= 7, m + " takes too many");
        }
    }

    private static void source(List<String> lines) {
        int start = -1;
        for (int i = 0; i < lines.size(); i++) {
            String line = lines.get(i);
            String code = line.replaceAll("//.*|^\\s*/?\\*.*", "");
            for (String never : NEVER) {
                Matcher m = Pattern.compile(never).matcher(code);
                right(!m.find(), "line " + (i + 1) + " has " + never);
            }
            // No call makes an object: one run of many calls has one room for all of them.
            boolean makesNone = !code.matches(".*\\bnew\\b.*");
            right(makesNone || code.matches("\\s+(private )?final [\\w\\[\\]]+ \\w+ = new .*;"),
                    "line " + (i + 1) + " makes an object outside of a constructor");
            right(line.length() <= 120, "line " + (i + 1) + " is long");
            right(line.chars().allMatch(c -> c < 127), "line " + (i + 1) + " has a strange sign");
            if (code.matches("\\s+(public|private|static|int|long|void|boolean).*\\) \\{")) start = i;
            if (code.matches("( {4}| {8})}") && start >= 0) {
                right(i - start <= 60, "the method at line " + (start + 1) + " is long");
                start = -1;
            }
        }
    }
}
