import java.nio.file.Files;
import java.nio.file.Path;
import java.util.Arrays;
import java.util.List;
import java.util.Set;
import java.util.TreeSet;
import java.util.regex.Matcher;
import java.util.regex.Pattern;
import java.util.stream.Stream;

/** What README.md shows: each call in it is made, and answers what stands beside it. */
public final class ReadmeTest extends Checks {
    private static final Pattern CALL = Pattern.compile("x\\.(\\w+)\\(([-0-9, ]*)\\);\\s+// (-?\\d+)(:.*)?");
    private static final Pattern TYPING =
            Pattern.compile("for \\(char c : \"(.*)\"\\.toCharArray\\(\\)\\) x\\.type\\(c\\);");
    private static final Set<String> made = new TreeSet<>();
    private static ZoeStrips x;

    public static void main(String[] args) throws Exception {
        part = "README.md";
        List<String> lines = Files.readAllLines(Path.of("README.md"));
        boolean java = false;
        for (String line : lines) {
            if (line.startsWith("```")) java = line.equals("```java");
            else if (java) follow(line);
        }
        for (var method : ZoeStrips.class.getDeclaredMethods()) {
            boolean shown = (method.getModifiers() & 1) == 0 || made.contains(method.getName());
            due(method.getName() + " is shown", shown ? 1 : 0, 1);
        }
        everyTestIsNamed(String.join("\n", lines));
        end("ReadmeTest");
    }

    private static void follow(String line) {
        Matcher call = CALL.matcher(line);
        Matcher typing = TYPING.matcher(line);
        if (line.equals("ZoeStrips x = new ZoeStrips();")) {
            x = new ZoeStrips();
        } else if (call.matches()) {
            String numbers = call.group(2).replace(" ", "");
            int[] a = numbers.isEmpty() ? new int[0] : Arrays.stream(numbers.split(",")).mapToInt(Integer::parseInt).toArray();
            made.add(call.group(1));
            due(told(call.group(1), a), Calls.answer(x, call.group(1), a), Long.parseLong(call.group(3)));
        } else if (typing.matches()) {
            made.add("type");
            for (char c : typing.group(1).toCharArray()) x.type(c);
        } else {
            due("a line that is no call: " + line, 1, 0);
        }
    }

    private static void everyTestIsNamed(String page) throws Exception {
        try (Stream<Path> files = Files.list(Path.of("src/test/java"))) {
            for (Path file : files.filter(f -> f.toString().endsWith(".java")).toList()) {
                String name = file.getFileName().toString().replace(".java", "");
                due(name + " is named", page.contains("`" + name + "`") ? 1 : 0, 1);
            }
        }
        due("the way to run the tests is told", page.contains("```sh\n.ci/run\n```") ? 1 : 0, 1);
    }
}
