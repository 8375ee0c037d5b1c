import java.util.ArrayList;
import java.util.List;
import java.util.Random;

/** Long runs by a seed, held call by call against the slow model; wrong numbers, too. */
public final class AgainstModelTest {
    /** "An object is used for at most 512 calls after it has been made; what later calls answer is free." */
    private static final int MOST_CALLS = 512;
    private static final String[] WORDS = {"drum", "draw", "eye", "step", "turn", "drums", "a", "-", "\t", "A", "\0"};
    private static final int[] WILD = {Integer.MIN_VALUE, -1000000, -11, -2, -1, 10, 11, 12, 13, 30, 31, 60, 61, 99,
        100, 127, 128, 999999, 1000000, Integer.MAX_VALUE};
    private static final String[] CALLS = {"drum", "lamp", "eye", "type", "clear", "read", "spins", "steps", "draws",
        "undo", "of", "drawn", "at", "sees", "round", "still", "most", "smooth", "seen", "began", "tell", "note",
        "mark", "forget", "is", "look", "kinds", "ask", "hands", "smear", "nights", "part", "image", "from",
        "status", "count", "digest"};

    private final Random random;
    private final ZoeStrips strips = new ZoeStrips();
    private final ZoeModel model = new ZoeModel();
    private final List<String> told = new ArrayList<>();
    private boolean right = true;
    private int calls = 0;
    /** Of so many calls one has a wrong number. */
    private int wildOneIn;
    private boolean nearTheEnd;

    private AgainstModelTest(long seed) {
        // Small seeds side by side give nearly the same first numbers, so they are spread.
        random = new Random(seed * 0x9E3779B97F4A7C15L);
    }

    public static void main(String[] args) {
        int wrong = 0, fewWild = 0, nearTheEnd = 0;
        for (long seed = 1; seed <= 600 && wrong < 3; seed++) {
            AgainstModelTest run = new AgainstModelTest(seed);
            run.go();
            if (run.wildOneIn == 40) fewWild++;
            if (run.nearTheEnd) nearTheEnd++;
            if (!run.right) {
                wrong++;
                System.out.println("seed " + seed + ":");
                run.told.forEach(System.out::println);
            }
        }
        if (wrong == 0 && (fewWild < 200 || fewWild > 400 || nearTheEnd < 50)) {
            wrong++;
            System.out.println("runs are not of all sorts: " + fewWild + " with few wrong numbers, " + nearTheEnd + " near the end");
        }
        System.out.println(wrong == 0 ? "AgainstModelTest: all answers are alike" : "AgainstModelTest: runs differ");
        if (wrong != 0) System.exit(1);
    }

    private void go() {
        wildOneIn = random.nextBoolean() ? 4 : 40;
        nearTheEnd = random.nextInt(6) == 0;
        if (nearTheEnd) turnNearTheEnd();
        while (right && calls < MOST_CALLS) {
            int kind = random.nextInt(30);
            if (kind == 0) typeText(text());
            else if (kind == 1 && random.nextInt(4) != 0) drawAll();
            else call(CALLS[random.nextInt(CALLS.length)]);
            both("digest");
        }
    }

    /** A drum with eyes, a few FLASHES ahead of the last one, which an object's 512 calls can just reach. */
    private void turnNearTheEnd() {
        both("drum", 2 + random.nextInt(11), random.nextInt(6), random.nextInt(12));
        drawAll();
        for (int i = random.nextInt(6); i > 0; i--) both("eye", random.nextInt(6));
        for (int i = 0; i < 166; i++) both("spins", 60);
        both("spins", 1 + random.nextInt(39));
    }

    private void typeText(String text) {
        both("clear");
        for (int i = 0; i < text.length(); i++) both("type", text.charAt(i));
        both("read");
    }

    private void drawAll() {
        int n = model.frames();
        for (int f = 0; f < n; f++) both("draws", f, random.nextInt(10));
    }

    /** Mostly a text that can be read, with a token spoiled now and then. */
    private String text() {
        StringBuilder t = new StringBuilder();
        int spoil = random.nextInt(3) == 0 ? random.nextInt(12) : -1;
        item(t, spoil == 0, "drum", 2 + random.nextInt(11), random.nextInt(6), random.nextInt(12));
        int items = random.nextInt(10);
        for (int i = 1; i <= items; i++) {
            boolean bad = spoil == i;
            switch (random.nextInt(4)) {
                case 0: item(t, bad, "eye", random.nextInt(6)); break;
                case 1: item(t, bad, "step", random.nextInt(12)); break;
                case 2: item(t, bad, "turn", 1 + random.nextInt(99)); break;
                default: item(t, bad, "draw", random.ints(1 + random.nextInt(4), 0, 10).toArray()); break;
            }
        }
        if (random.nextInt(12) == 0) t.setLength(random.nextInt(t.length()));
        if (random.nextInt(6) == 0) t.append(' ');
        return t.toString();
    }

    private void item(StringBuilder t, boolean spoiled, String word, int... numbers) {
        List<String> tokens = new ArrayList<>();
        tokens.add(word);
        for (int n : numbers) tokens.add(random.nextInt(8) == 0 && n < 10 ? "0" + n : "" + n);
        tokens.add(";");
        if (spoiled) spoil(tokens);
        for (int i = 0; i < tokens.size(); i++) {
            boolean apart = i > 1 && !tokens.get(i).equals(";");
            int blanks = random.nextInt(6) == 0 ? 2 : apart || random.nextInt(3) == 0 ? 1 : 0;
            t.append(" ".repeat(blanks)).append(tokens.get(i));
        }
    }

    private void spoil(List<String> tokens) {
        int place = random.nextInt(tokens.size());
        switch (random.nextInt(5)) {
            case 0: tokens.remove(place); break;
            case 1: tokens.add(place, ";"); break;
            case 2: tokens.set(place, "" + random.nextInt(1200)); break;
            case 3: tokens.add(place, "" + random.nextInt(12)); break;
            default: tokens.set(place, WORDS[random.nextInt(WORDS.length)]); break;
        }
    }

    private void call(String name) {
        int[] a = likely(name);
        if (a.length > 0 && random.nextInt(wildOneIn) == 0) {
            a[random.nextInt(a.length)] = WILD[random.nextInt(WILD.length)];
        }
        // A new drum too often would leave little behind it to look at.
        if (name.equals("drum") && random.nextInt(4) != 0) return;
        both(name, a);
    }

    private int[] likely(String name) {
        Random r = random;
        switch (name) {
            case "drum": return new int[] {2 + r.nextInt(11), r.nextInt(6), r.nextInt(12)};
            case "lamp": case "eye": return new int[] {r.nextInt(6)};
            case "type": return new int[] {r.nextInt(128)};
            case "spins": case "still": return new int[] {1 + r.nextInt(r.nextBoolean() ? 5 : 60)};
            case "steps": return new int[] {r.nextInt(12)};
            case "draws": return new int[] {r.nextInt(12), r.nextInt(10)};
            case "of": return new int[] {r.nextInt(5), r.nextInt(3)};
            case "drawn": return new int[] {r.nextInt(12)};
            case "at": return new int[] {r.nextInt(61)};
            case "sees": return new int[] {r.nextInt(5), r.nextInt(61)};
            case "most": return new int[] {r.nextInt(5), 1 + r.nextInt(60), r.nextInt(2)};
            case "smooth": return new int[] {r.nextInt(13) - 1};
            case "seen": return likelySeen();
            case "began": return new int[] {r.nextInt(40) - 1};
            case "note": return likelyNote();
            case "mark": return likelyMark();
            case "forget": case "status": return new int[] {r.nextInt(3)};
            case "is": case "look": return new int[] {r.nextInt(5)};
            case "hands": return new int[] {r.nextInt(5), r.nextInt(5), r.nextInt(8) - 1};
            case "smear": return new int[] {r.nextInt(5), r.nextInt(10), r.nextInt(7), r.nextInt(11)};
            case "nights": return new int[] {r.nextInt(1000000), r.nextInt(61)};
            case "part": case "image": case "from": return new int[] {r.nextInt(2)};
            case "count": return new int[] {r.nextInt(12)};
            default: return new int[0];
        }
    }

    private int[] likelySeen() {
        return new int[] {1 + random.nextInt(30), model.drawing(random.nextInt(model.frames()))};
    }

    /** Notes and marks that are so by some kind leave more to tell than ones out of the air. */
    private int[] likelyNote() {
        int p = random.nextInt(10), q = random.nextInt(10);
        return new int[] {random.nextInt(5), p, q, ZoeModel.saw(random.nextInt(6), p, q)};
    }

    private int[] likelyMark() {
        int s = random.nextInt(12), k = random.nextInt(100);
        return new int[] {s, k, ZoeModel.passed(random.nextInt(6), s, k)};
    }

    private void both(String name, int... a) {
        if (!right || calls == MOST_CALLS) return;
        calls++;
        long want = model.answer(name, a);
        long got = Calls.answer(strips, name, a);
        told.add("  " + name + java.util.Arrays.toString(a) + " " + got);
        if (got != want) {
            right = false;
            told.add("  due is " + want);
        }
    }
}
