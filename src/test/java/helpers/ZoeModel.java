import java.math.BigInteger;
import java.util.ArrayList;
import java.util.Arrays;
import java.util.HashMap;
import java.util.List;
import java.util.Map;
import java.util.regex.Matcher;
import java.util.regex.Pattern;

/**
 * A second, slow reading of the document, written with the Java library and by trying all that
 * there is, so that ZoeStrips can be held against it call by call.
 */
final class ZoeModel {
    /** All that an image keeps. */
    private static final class State {
        int n = 2, lamp = 0, step = 1, frame = 0, flash = 0;
        int[] strip = new int[12];
        List<int[]> eyes = new ArrayList<>();
        List<int[]> seen = new ArrayList<>(), notes = new ArrayList<>(), marks = new ArrayList<>();
        List<State> past = new ArrayList<>();

        State copy() {
            State s = new State();
            s.n = n;
            s.lamp = lamp;
            s.step = step;
            s.frame = frame;
            s.flash = flash;
            s.strip = strip.clone();
            for (int[] e : eyes) s.eyes.add(e.clone());
            s.seen.addAll(seen);
            s.notes.addAll(notes);
            s.marks.addAll(marks);
            s.past.addAll(past);
            return s;
        }

        int drawing() {
            return strip[frame];
        }

        void flash(boolean seenByEyes) {
            flash++;
            frame = (frame + passed(lamp, step, flash)) % n;
            if (!seenByEyes) return;
            for (int[] e : eyes) {
                int x = saw(e[0], drawing(), e[1]);
                if (x != e[1]) e[2]++;
                e[1] = x;
            }
        }

        State ahead(int withStep, int flashes) {
            State s = copy();
            s.step = withStep;
            for (int[] e : s.eyes) e[2] = 0;
            for (int i = 0; i < flashes; i++) s.flash(true);
            return s;
        }

        void turn(int flashes) {
            for (int i = 0; i < flashes && flash < 9999; i++) {
                flash(true);
                for (int[] e : eyes) e[2] = Math.min(9999, e[2]);
            }
        }
    }

    private State now = new State();
    private final State[] images = new State[2];
    private final StringBuilder text = new StringBuilder();
    private long above = 0, below = 1;
    private final int[] refused = new int[3];

    static int passed(int kind, int s, int k) {
        int[] all = {s, s + s, s + k % 2, s + s + (k % 4 == 0 ? 1 : 0), k % 5 == 4 ? 0 : s + k % 2, s == 0 ? 1 : s};
        return all[kind];
    }

    static int saw(int kind, int p, int q) {
        int half = (p + q) >> 1;
        int sharp = p == q + 1 || p == q - 1 ? q : p;
        int child = sharp > q && sharp < 9 ? sharp + 1 : sharp;
        int[] all = {p, half, sharp, p == 0 ? q : half, child, p == q ? 0 : p};
        return all[kind];
    }

    private long refuse(int reason, long answer) {
        refused[reason]++;
        return answer;
    }

    private long bad() {
        return refuse(0, -2);
    }

    private static boolean in(int v, int low, int high) {
        return low <= v && v <= high;
    }

    private boolean eye(int e) {
        return in(e, 0, now.eyes.size() - 1);
    }

    int frames() {
        return now.n;
    }

    int drawing(int f) {
        return now.strip[f];
    }

    long answer(String call, int[] a) {
        switch (call) {
            case "drum": return drum(a[0], a[1], a[2]);
            case "lamp": return lamp(a[0]);
            case "eye": return addEye(a[0]);
            case "type":
                if (!in(a[0], 0, 127)) return bad();
                if (text.length() == 150) return refuse(2, -4);
                return text.append((char) a[0]).length();
            case "clear": {
                int had = text.length();
                text.setLength(0);
                return had;
            }
            case "read": return read();
            case "spins": return spins(a[0]);
            case "steps": return steps(a[0]);
            case "draws": return draws(a[0], a[1]);
            case "undo": return undo();
            case "of": return eye(a[0]) && in(a[1], 0, 2) ? now.eyes.get(a[0])[a[1]] : bad();
            case "drawn": return in(a[0], 0, now.n - 1) ? now.strip[a[0]] : bad();
            case "at": return in(a[0], 0, 60) ? now.ahead(now.step, a[0]).frame : bad();
            case "sees":
                return eye(a[0]) && in(a[1], 0, 60) ? now.ahead(now.step, a[1]).eyes.get(a[0])[1] : bad();
            case "round": return round();
            case "still": return in(a[0], 1, 60) ? still(a[0]) : bad();
            case "most": return eye(a[0]) && in(a[1], 1, 60) && in(a[2], 0, 1) ? most(a[0], a[1])[a[2]] : bad();
            case "smooth": return a[0] == -1 || in(a[0], 0, now.n - 1) ? smooth(a[0]) : refuse(0, -10);
            default: return answerMore(call, a);
        }
    }

    private long answerMore(String call, int[] a) {
        switch (call) {
            case "seen": return in(a[0], 1, 30) && in(a[1], 0, 9) ? add(now.seen, a) : bad();
            case "began": return a[0] < -1 ? refuse(0, -10) : pick(began(), a[0]);
            case "tell": return tell();
            case "note":
                return eye(a[0]) && in(a[1], 0, 9) && in(a[2], 0, 9) && in(a[3], 0, 9) ? add(now.notes, a) : bad();
            case "mark":
                return in(a[0], 0, 11) && in(a[1], 0, 99) && in(a[2], 0, 30) ? add(now.marks, a) : bad();
            case "forget": return forget(a[0]);
            case "is": return eye(a[0]) ? bits(eyeKinds(a[0])) : bad();
            case "look": return eye(a[0]) ? look(a[0]) : bad();
            case "kinds": return bits(lampKinds());
            case "ask": return ask();
            case "hands":
                return eye(a[0]) && eye(a[1]) && a[0] != a[1] && a[2] >= -1
                        ? pick(hands(a[0], a[1]), a[2]) : refuse(0, -10);
            case "smear":
                return eye(a[0]) && in(a[1], 0, 9) && in(a[2], 0, 6) && in(a[3], 0, 10)
                        ? smear(a[0], a[1], a[2], a[3]) : bad();
            case "nights": return in(a[0], 0, 999999) && in(a[1], 0, 60) ? nights(a[0], a[1]) : bad();
            case "part": return a[0] == 0 ? above : a[0] == 1 ? below : bad();
            case "image":
                if (!in(a[0], 0, 1)) return bad();
                images[a[0]] = now.copy();
                return 1;
            case "from":
                if (!in(a[0], 0, 1)) return bad();
                if (images[a[0]] == null) return refuse(1, -3);
                now = images[a[0]].copy();
                return 1;
            case "status": return in(a[0], 0, 2) ? refused[a[0]] : refuse(0, -1);
            case "count": return in(a[0], 0, 11) ? counts()[a[0]] : bad();
            case "digest": return digest();
            default: throw new IllegalStateException(call);
        }
    }

    private long drum(int n, int lamp, int step) {
        if (!in(n, 2, 12) || !in(lamp, 0, 5) || !in(step, 0, 11)) return bad();
        int eyes = now.eyes.size();
        now = new State();
        now.n = n;
        now.lamp = lamp;
        now.step = step;
        return eyes;
    }

    private long lamp(int kind) {
        if (!in(kind, 0, 5)) return bad();
        int was = now.lamp;
        now.lamp = kind;
        now.past.clear();
        return was;
    }

    private long addEye(int kind) {
        if (!in(kind, 0, 5)) return bad();
        if (now.eyes.size() == 5) return refuse(2, -4);
        now.eyes.add(new int[] {kind, 0, 0});
        now.past.clear();
        return now.eyes.size() - 1;
    }

    /** Tokens by a pattern first, items over the list of them second. */
    private long read() {
        List<String> tokens = new ArrayList<>();
        List<Integer> places = new ArrayList<>();
        Matcher m = Pattern.compile("[a-z]+|[0-9]+|[^ ]", Pattern.DOTALL).matcher(text);
        while (m.find()) {
            tokens.add(m.group());
            places.add(m.start());
        }
        tokens.add("");
        places.add(text.length());
        State s = new State();
        int i = 0, items = 0;
        while (items == 0 || !tokens.get(i).isEmpty()) {
            String word = tokens.get(i);
            boolean first = items == 0;
            if (first != word.equals("drum")) return -10 - places.get(i);
            int[][] ranges = ranges(word, s);
            if (ranges == null) return -10 - places.get(i);
            List<Integer> numbers = new ArrayList<>();
            i++;
            int least = word.equals("draw") ? 1 : ranges.length;
            while (!(tokens.get(i).equals(";") && numbers.size() >= least)) {
                if (numbers.size() == ranges.length || !tokens.get(i).matches("[0-9]{1,2}")) return -10 - places.get(i);
                int v = Integer.parseInt(tokens.get(i));
                int[] range = ranges[numbers.size()];
                if (!in(v, range[0], range[1])) return -10 - places.get(i);
                numbers.add(v);
                i++;
            }
            i++;
            items++;
            apply(word, numbers, s);
        }
        now = s;
        return items;
    }

    private static int[][] ranges(String word, State s) {
        switch (word) {
            case "drum": return new int[][] {{2, 12}, {0, 5}, {0, 11}};
            case "draw": {
                int[][] all = new int[s.n][];
                Arrays.fill(all, new int[] {0, 9});
                return all;
            }
            case "eye": return s.eyes.size() == 5 ? null : new int[][] {{0, 5}};
            case "step": return new int[][] {{0, 11}};
            case "turn": return new int[][] {{1, 99}};
            default: return null;
        }
    }

    private static void apply(String word, List<Integer> v, State s) {
        switch (word) {
            case "drum":
                s.n = v.get(0);
                s.lamp = v.get(1);
                s.step = v.get(2);
                break;
            case "draw":
                for (int f = 0; f < v.size(); f++) s.strip[f] = v.get(f);
                break;
            case "eye":
                s.eyes.add(new int[] {v.get(0), 0, 0});
                break;
            case "step":
                s.step = v.get(0);
                break;
            default:
                s.turn(v.get(0));
                break;
        }
    }

    private void remember() {
        State s = now.copy();
        s.past.clear();
        now.past.add(s);
        if (now.past.size() > 8) now.past.remove(0);
    }

    private long spins(int n) {
        if (!in(n, 1, 60)) return bad();
        if (now.flash < 9999) remember();
        now.turn(n);
        return now.frame;
    }

    private long steps(int s) {
        if (!in(s, 0, 11)) return bad();
        if (s == now.step) return refuse(1, -3);
        remember();
        int was = now.step;
        now.step = s;
        return was;
    }

    private long draws(int f, int p) {
        if (!in(f, 0, now.n - 1) || !in(p, 0, 9)) return bad();
        if (now.strip[f] == p) return refuse(1, -3);
        remember();
        int was = now.strip[f];
        now.strip[f] = p;
        return was;
    }

    private long undo() {
        if (now.past.isEmpty()) return refuse(1, -3);
        State then = now.past.remove(now.past.size() - 1).copy();
        now.frame = then.frame;
        now.flash = then.flash;
        now.step = then.step;
        now.strip = then.strip;
        now.eyes = then.eyes;
        return now.flash;
    }

    private static List<Integer> kept(State s) {
        List<Integer> list = new ArrayList<>();
        list.add(s.frame);
        for (int[] e : s.eyes) list.add(e[1]);
        return list;
    }

    private long round() {
        for (int m = 1; m <= 60; m++) if (kept(now.ahead(now.step, m)).equals(kept(now))) return m;
        return -1;
    }

    private long still(int m) {
        int bits = 0;
        for (int s = 0; s < 12; s++) {
            boolean all = true;
            for (int i = 1; i <= m; i++) all &= now.ahead(s, i).drawing() == now.drawing();
            if (all) bits += 1 << s;
        }
        return bits;
    }

    private int[] most(int e, int m) {
        int[] best = {0, now.ahead(0, m).eyes.get(e)[2]};
        for (int s = 1; s < 12; s++) {
            int more = now.ahead(s, m).eyes.get(e)[2];
            if (more > best[1]) best = new int[] {s, more};
        }
        return best;
    }

    /** The least number of frames anew with the first ones as given, by going forward. */
    private int anew(List<Integer> given) {
        int best = 99;
        for (int first = 0; first < 10; first++) {
            if (!given.isEmpty() && given.get(0) != first) continue;
            int[] cost = new int[10];
            Arrays.fill(cost, 99);
            cost[first] = now.strip[0] == first ? 0 : 1;
            for (int f = 1; f < now.n; f++) {
                int[] next = new int[10];
                Arrays.fill(next, 99);
                for (int d = 0; d < 10; d++) {
                    if (f < given.size() && given.get(f) != d) continue;
                    for (int b = 0; b < 10; b++) {
                        if (Math.abs(b - d) < 2) next[d] = Math.min(next[d], cost[b] + (now.strip[f] == d ? 0 : 1));
                    }
                }
                cost = next;
            }
            for (int d = 0; d < 10; d++) if (Math.abs(d - first) < 2) best = Math.min(best, cost[d]);
        }
        return best;
    }

    private long smooth(int f) {
        List<Integer> given = new ArrayList<>();
        int fewest = anew(given);
        if (f == -1) return fewest;
        for (int i = 0; i <= f; i++) {
            given.add(0);
            while (anew(given) != fewest) given.set(i, given.get(i) + 1);
        }
        return given.get(f);
    }

    private long add(List<int[]> list, int[] row) {
        if (list.size() == 6) return refuse(2, -4);
        list.add(row.clone());
        return list.size();
    }

    private static long pick(List<Integer> list, int k) {
        return k == -1 ? list.size() : k < list.size() ? list.get(k) : -5;
    }

    private int drawingFrom(int code, int flashes) {
        State s = now.copy();
        s.frame = code / 12;
        s.step = code % 12;
        s.flash = 0;
        for (int i = 0; i < flashes; i++) s.flash(false);
        return s.drawing();
    }

    private List<Integer> began() {
        List<Integer> list = new ArrayList<>();
        for (int code = 0; code < 12 * now.n; code++) {
            boolean all = true;
            for (int[] s : now.seen) all &= drawingFrom(code, s[0]) == s[1];
            if (all) list.add(code);
        }
        return list;
    }

    private static int largest(List<Integer> values) {
        Map<Integer, Integer> groups = new HashMap<>();
        int most = 0;
        for (int v : values) most = Math.max(most, groups.merge(v, 1, Integer::sum));
        return most;
    }

    private long tell() {
        List<Integer> codes = began();
        if (codes.isEmpty()) return -1;
        int best = 0, fewest = 999;
        for (int m = 1; m <= 30; m++) {
            List<Integer> values = new ArrayList<>();
            for (int code : codes) values.add(drawingFrom(code, m));
            if (largest(values) < fewest) {
                fewest = largest(values);
                best = m;
            }
        }
        return best;
    }

    private long forget(int what) {
        if (!in(what, 0, 2)) return bad();
        List<int[]> list = Arrays.asList(now.seen, now.notes, now.marks).get(what);
        int had = list.size();
        list.clear();
        return had;
    }

    private List<Integer> eyeKinds(int e) {
        List<Integer> list = new ArrayList<>();
        for (int kind = 0; kind < 6; kind++) {
            boolean all = true;
            for (int[] r : now.notes) if (r[0] == e) all &= saw(kind, r[1], r[2]) == r[3];
            if (all) list.add(kind);
        }
        return list;
    }

    private List<Integer> lampKinds() {
        List<Integer> list = new ArrayList<>();
        for (int kind = 0; kind < 6; kind++) {
            boolean all = true;
            for (int[] r : now.marks) all &= passed(kind, r[0], r[1]) == r[2];
            if (all) list.add(kind);
        }
        return list;
    }

    private static long bits(List<Integer> kinds) {
        long bits = 0;
        for (int kind : kinds) bits |= 1L << kind;
        return bits;
    }

    private long look(int e) {
        List<Integer> kinds = eyeKinds(e);
        if (kinds.isEmpty()) return -1;
        int best = 0, fewest = 99;
        for (int p = 0; p < 10; p++) {
            for (int q = 0; q < 10; q++) {
                List<Integer> values = new ArrayList<>();
                for (int kind : kinds) values.add(saw(kind, p, q));
                if (largest(values) < fewest) {
                    fewest = largest(values);
                    best = 10 * p + q;
                }
            }
        }
        return best;
    }

    private long ask() {
        List<Integer> kinds = lampKinds();
        if (kinds.isEmpty()) return -1;
        int best = 0, fewest = 99;
        for (int s = 0; s < 12; s++) {
            for (int k = 0; k < 20; k++) {
                List<Integer> values = new ArrayList<>();
                for (int kind : kinds) values.add(passed(kind, s, k));
                if (largest(values) < fewest) {
                    fewest = largest(values);
                    best = 100 * s + k;
                }
            }
        }
        return best;
    }

    private int pay(int eye, int own, int other) {
        return now.ahead(own + other, 4).eyes.get(eye)[2] - (own == 3 ? 1 : 0);
    }

    private List<Integer> hands(int a, int b) {
        List<Integer> list = new ArrayList<>();
        for (int i = 0; i < 4; i++) {
            for (int j = 0; j < 4; j++) {
                int mostOfOne = -9, mostOfOther = -9;
                for (int o = 0; o < 4; o++) {
                    mostOfOne = Math.max(mostOfOne, pay(a, o, j));
                    mostOfOther = Math.max(mostOfOther, pay(b, o, i));
                }
                if (pay(a, i, j) == mostOfOne && pay(b, j, i) == mostOfOther) list.add(10 * i + j);
            }
        }
        return list;
    }

    /** Every way in which flashes can be seen or not. */
    private long smear(int e, int x, int n, int c) {
        BigInteger sum = BigInteger.ZERO;
        for (int way = 0; way < 1 << n; way++) {
            State s = now.copy();
            long weight = 1;
            for (int i = 0; i < n; i++) {
                boolean unseen = (way >> i & 1) == 1;
                s.flash(!unseen);
                weight *= unseen ? c : 10 - c;
            }
            if (s.eyes.get(e)[1] == x) sum = sum.add(BigInteger.valueOf(weight));
        }
        BigInteger whole = BigInteger.TEN.pow(n);
        BigInteger gcd = sum.gcd(whole);
        above = sum.divide(gcd).longValueExact();
        below = whole.divide(gcd).longValueExact();
        return 1;
    }

    private long nights(int seed, int n) {
        State s = now.copy();
        for (int[] e : s.eyes) e[2] = 0;
        BigInteger x = BigInteger.valueOf(seed);
        for (int i = 0; i < n; i++) {
            x = x.multiply(BigInteger.valueOf(1103515245)).add(BigInteger.valueOf(12345)).mod(BigInteger.TWO.pow(31));
            s.step = x.shiftRight(16).mod(BigInteger.valueOf(12)).intValue();
            s.flash(true);
        }
        int all = 0;
        for (int[] e : s.eyes) all += e[2];
        return all;
    }

    private long[] counts() {
        long moves = 0;
        for (int[] e : now.eyes) moves += e[2];
        return new long[] {now.n, now.lamp, now.step, now.frame, now.flash, now.eyes.size(), moves,
            now.seen.size(), now.notes.size(), now.marks.size(), now.past.size(), text.length()};
    }

    private long digest() {
        List<Long> v = new ArrayList<>();
        for (long c : counts()) v.add(c);
        for (int f = 0; f < now.n; f++) v.add((long) now.strip[f]);
        for (List<int[]> rows : Arrays.asList(now.eyes, now.seen, now.notes, now.marks)) {
            for (int[] row : rows) for (int c : row) v.add((long) c);
        }
        v.add(above);
        v.add(below);
        long h = 1787;
        for (long c : v) h = 31 * h + c;
        return h;
    }
}
