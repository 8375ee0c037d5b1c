import java.lang.reflect.InvocationTargetException;
import java.net.URL;
import java.net.URLClassLoader;
import java.nio.file.Files;
import java.nio.file.Path;
import java.util.ArrayList;
import java.util.Comparator;
import java.util.List;
import java.util.regex.Matcher;
import java.util.regex.Pattern;
import java.util.stream.Stream;
import javax.tools.ToolProvider;

/**
 * "An object is used for at most 512 calls after it has been made; what later calls answer is free": the tests
 * keep to it, too. They are run with a copy of the class that counts its calls and does not bear a 513th.
 */
public final class LimitTest {
    private static final Path CLASS = Path.of("src/main/java/ZoeStrips.java");
    private static final Path TESTS = Path.of("src/test/java");
    private static final int CALLS = 37;

    private LimitTest() {
    }

    public static void main(String[] args) throws Exception {
        Path room = Files.createTempDirectory("limit");
        boolean right = false;
        try {
            right = compile(room) && runAll(room);
        } finally {
            remove(room);
        }
        System.out.println(right ? "LimitTest: no test makes a 513th call" : "LimitTest: wrong");
        if (!right) System.exit(1);
    }

    private static String counting(String source) {
        Matcher call = Pattern.compile("(?m)^    public (int|long) \\w+\\(.*\\) \\{$").matcher(source);
        if (call.results().count() != CALLS) throw new IllegalStateException("not every call is counted");
        return call.replaceAll("$0 if (++made > 512) throw new IllegalStateException(\"a 513th call\");")
                .replaceFirst("    public ZoeStrips\\(\\)", "    private int made;\n$0");
    }

    private static boolean compile(Path room) throws Exception {
        Path copy = room.resolve("ZoeStrips.java");
        Files.writeString(copy, counting(Files.readString(CLASS)));
        List<String> words = new ArrayList<>(List.of("-d", room.toString(), copy.toString()));
        for (Path test : filesOf(TESTS)) words.add(test.toString());
        for (Path helper : filesOf(TESTS.resolve("helpers"))) words.add(helper.toString());
        return ToolProvider.getSystemJavaCompiler().run(null, null, null, words.toArray(new String[0])) == 0;
    }

    private static boolean runAll(Path room) throws Exception {
        boolean right = true;
        for (Path test : filesOf(TESTS)) {
            String name = test.getFileName().toString().replace(".java", "");
            // LanguageTest makes no calls, and looks at the class that is not counted.
            if (!name.equals("LimitTest") && !name.equals("LanguageTest")) right &= run(room, name);
        }
        return right;
    }

    /** A loader of its own, as the tests count what is wrong in static fields. */
    private static boolean run(Path room, String name) throws Exception {
        try (URLClassLoader loader = new URLClassLoader(new URL[] {room.toUri().toURL()}, null)) {
            loader.loadClass(name).getMethod("main", String[].class).invoke(null, (Object) new String[0]);
            return true;
        } catch (InvocationTargetException thrown) {
            System.out.println("LimitTest: " + name + ": " + thrown.getCause());
            return false;
        }
    }

    private static List<Path> filesOf(Path folder) throws Exception {
        try (Stream<Path> files = Files.list(folder)) {
            return files.filter(f -> f.toString().endsWith(".java")).sorted().toList();
        }
    }

    private static void remove(Path room) throws Exception {
        try (Stream<Path> all = Files.walk(room)) {
            for (Path path : all.sorted(Comparator.reverseOrder()).toList()) Files.delete(path);
        }
    }
}
