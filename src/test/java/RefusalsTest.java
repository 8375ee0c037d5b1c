import java.util.ArrayList;
import java.util.List;

/**
 * "BAD -2 a number is not as told": of each call, each number, its least and its most one are taken, the ones
 * beyond them are refused, and a call that is refused changes nothing but STATUS.
 */
public final class RefusalsTest extends Checks {
    /** A call with numbers that are as told, and where each number begins and ends. */
    private static final class Range {
        final String call;
        final int answer;
        final int[] usual, least, most;

        Range(String call, int answer, int[]... numbers) {
            this.call = call;
            this.answer = answer;
            usual = new int[numbers.length];
            least = new int[numbers.length];
            most = new int[numbers.length];
            for (int i = 0; i < numbers.length; i++) {
                usual[i] = numbers[i][0];
                least[i] = numbers[i][1];
                most[i] = numbers[i][2];
            }
        }

        int[] with(int place, int number) {
            int[] a = usual.clone();
            a[place] = number;
            return a;
        }
    }

    private static int[] of(int usual, int least, int most) {
        return new int[] {usual, least, most};
    }

    /** The bounds that the document tells, for a drum of so many frames and so many eyes. */
    private static List<Range> ranges(int frames, int eyes) {
        int[] frame = of(1, 0, frames - 1), eye = of(0, 0, eyes - 1), kind = of(1, 0, 5), step = of(4, 0, 11);
        int[] drawing = of(5, 0, 9), ahead = of(3, 0, 60), turns = of(3, 1, 60), two = of(0, 0, 1);
        List<Range> all = new ArrayList<>();
        all.add(new Range("drum", -2, of(3, 2, 12), kind, step));
        all.add(new Range("lamp", -2, kind));
        if (eyes < 5) all.add(new Range("eye", -2, kind));
        all.add(new Range("type", -2, of(65, 0, 127)));
        all.add(new Range("spins", -2, turns));
        all.add(new Range("steps", -2, step));
        all.add(new Range("draws", -2, frame, drawing));
        all.add(new Range("drawn", -2, frame));
        all.add(new Range("at", -2, ahead));
        all.add(new Range("still", -2, turns));
        all.add(new Range("smooth", -10, of(0, -1, frames - 1)));
        all.add(new Range("seen", -2, of(3, 1, 30), drawing));
        all.add(new Range("began", -10, of(0, -1, MAX)));
        all.add(new Range("mark", -2, step, of(3, 0, 99), of(3, 0, 30)));
        all.add(new Range("forget", -2, of(0, 0, 2)));
        all.add(new Range("nights", -2, of(3, 0, 999999), ahead));
        all.add(new Range("part", -2, two));
        all.add(new Range("image", -2, two));
        all.add(new Range("from", -2, two));
        all.add(new Range("status", -1, of(0, 0, 2)));
        all.add(new Range("count", -2, of(0, 0, 11)));
        if (eyes == 0) return all;
        all.add(new Range("of", -2, eye, of(0, 0, 2)));
        all.add(new Range("sees", -2, eye, ahead));
        all.add(new Range("most", -2, eye, turns, two));
        all.add(new Range("note", -2, eye, drawing, drawing, drawing));
        all.add(new Range("is", -2, eye));
        all.add(new Range("look", -2, eye));
        all.add(new Range("smear", -2, eye, drawing, of(3, 0, 6), of(3, 0, 10)));
        return all;
    }

    /** As Whole.rich(), with another number of frames and of eyes. */
    private static ZoeStrips ready(int frames, int eyes) {
        ZoeStrips x = new ZoeStrips();
        x.drum(frames, 2, 3);
        for (int i = 0; i < eyes; i++) x.eye(i);
        x.image(0);
        for (int f = 0; f < frames; f++) x.draws(f, f % 9 + 1);
        x.spins(3);
        x.image(1);
        x.steps(2);
        x.seen(2, 3);
        if (eyes > 0) x.note(eyes - 1, 2, 3, 4);
        x.mark(4, 5, 6);
        for (char c : "drum 2 0 1;".toCharArray()) x.type(c);
        return x;
    }

    public static void main(String[] args) {
        sentence("BAD -2 a number is not as told", () -> {
            for (int frames : new int[] {2, 5, 12}) {
                for (int eyes : new int[] {0, 1, 3, 5}) {
                    for (Range range : ranges(frames, eyes)) edges(frames, eyes, range);
                }
            }
        });
        sentence("Refused, changing nothing but STATUS", RefusalsTest::refusedChangesNothing);
        sentence("the first of: BAD; NO; FULL", RefusalsTest::theFirstOf);
        sentence("no EYES", RefusalsTest::noEyes);
        sentence("BAD: -10: alike a, b, too", RefusalsTest::hands);
        sentence("no call throws", RefusalsTest::neverThrows);
        end("RefusalsTest");
    }

    private static void edges(int frames, int eyes, Range range) {
        for (int i = 0; i < range.usual.length; i++) {
            taken(ready(frames, eyes), range.call, range.with(i, range.least[i]));
            taken(ready(frames, eyes), range.call, range.with(i, range.most[i]));
            beyond(frames, eyes, range, range.with(i, range.least[i] - 1));
            beyond(frames, eyes, range, range.with(i, MIN));
            if (range.most[i] == MAX) continue;
            beyond(frames, eyes, range, range.with(i, range.most[i] + 1));
            beyond(frames, eyes, range, range.with(i, MAX));
        }
    }

    private static void taken(ZoeStrips x, String call, int[] a) {
        long answer = Calls.answer(x, call, a);
        boolean told = answer >= -1 || answer == -3 || answer == -5;
        due(told(call, a) + " is as told, and answered " + answer, told ? 1 : 0, 1);
        due(told(call, a) + " is not BAD", x.status(0), 0);
    }

    private static void beyond(int frames, int eyes, Range range, int[] a) {
        refused(ready(frames, eyes), 0, range.answer, range.call, a);
    }

    private static void changesNothing(String call, int... a) {
        ZoeStrips x = Whole.rich();
        Calls.answer(x, call, a);
        due(told(call, a) + " is refused", refusals(x), 1);
        due(told(call, a) + " changes nothing", Whole.told(x).equals(Whole.told(Whole.rich())) ? 1 : 0, 1);
    }

    private static void refusedChangesNothing() {
        for (Range range : ranges(5, 3)) {
            for (int i = 0; i < range.usual.length; i++) {
                changesNothing(range.call, range.with(i, range.least[i] - 1));
                if (range.most[i] < MAX) changesNothing(range.call, range.with(i, range.most[i] + 1));
            }
        }
        changesNothing("hands", 0, 0, -1);
        changesNothing("hands", 0, 3, -1);
        changesNothing("hands", 0, 1, -2);
        changesNothing("steps", 3);
        changesNothing("draws", 3, 9);
        ZoeStrips x = new ZoeStrips();
        x.eye(0);
        for (int i = 0; i < 6; i++) {
            x.seen(1, 1);
            x.note(0, 1, 1, 1);
            x.mark(1, 1, 1);
        }
        for (int i = 0; i < 4; i++) x.eye(0);
        for (int i = 0; i < 150; i++) x.type(' ');
        full(x, "seen", 2, 2);
        full(x, "note", 0, 2, 2, 2);
        full(x, "mark", 2, 2, 2);
        full(x, "eye", 2);
        full(x, "type", 'x');
        due("the text is as it was", x.read(), -160);
        due("kinds()", x.kinds(), 33);
        due("is(0)", x.is(0), 31);
    }

    private static void theFirstOf() {
        ZoeStrips x = new ZoeStrips();
        // BAD stands ahead of NO, and of FULL, whichever number it is.
        for (int i = 0; i < 5; i++) x.eye(0);
        bad(x, "eye", 6);
        bad(x, "eye", -1);
        full(x, "eye", 0);
        full(x, "eye", 5);
        for (int i = 0; i < 6; i++) {
            x.seen(1, 1);
            x.note(0, 1, 1, 1);
            x.mark(1, 1, 1);
        }
        bad(x, "seen", 31, 1);
        bad(x, "seen", 1, 10);
        full(x, "seen", 30, 9);
        bad(x, "note", 5, 1, 1, 1);
        bad(x, "note", 0, 1, 1, 10);
        full(x, "note", 4, 9, 9, 9);
        bad(x, "mark", 12, 1, 1);
        bad(x, "mark", 1, 1, 31);
        full(x, "mark", 11, 99, 30);
        bad(x, "from", 2);
        no(x, "from", 1);
        bad(x, "draws", 2, 0);
        bad(x, "draws", 0, 10);
        no(x, "draws", 0, 0);
        bad(x, "steps", 12);
        no(x, "steps", 1);
    }

    private static void noEyes() {
        for (int e : new int[] {MIN, -1, 0, 1, 4, 5, MAX}) {
            ZoeStrips x = new ZoeStrips();
            bad(x, "of", e, 0);
            bad(x, "sees", e, 0);
            bad(x, "most", e, 1, 0);
            bad(x, "note", e, 0, 0, 0);
            bad(x, "is", e);
            bad(x, "look", e);
            bad(x, "smear", e, 0, 0, 0);
            bad10(x, "hands", e, 0, -1);
            bad10(x, "hands", 0, e, -1);
        }
        // An eye is there behind eye(), and no more behind drum().
        ZoeStrips x = new ZoeStrips();
        x.eye(0);
        due("sees(0, 0)", x.sees(0, 0), 0);
        x.drum(2, 0, 0);
        bad(x, "sees", 0, 0);
    }

    private static void hands() {
        for (int eyes = 2; eyes <= 5; eyes++) {
            ZoeStrips x = ready(3, eyes);
            for (int a = -1; a <= eyes; a++) {
                for (int b = -1; b <= eyes; b++) {
                    boolean told = a >= 0 && b >= 0 && a < eyes && b < eyes && a != b;
                    if (told) taken(ready(3, eyes), "hands", new int[] {a, b, -1});
                    else bad10(x, "hands", a, b, -1);
                }
            }
            taken(ready(3, eyes), "hands", new int[] {0, 1, 0});
            taken(ready(3, eyes), "hands", new int[] {0, 1, MAX});
            bad10(x, "hands", 0, 1, -2);
            bad10(x, "hands", 0, 1, MIN);
        }
    }

    /** Every call with numbers of all sizes at once, on drums of all sizes. */
    private static void neverThrows() {
        int[] wild = {MIN, MIN + 1, -1000000, -10, -5, -2, -1, 0, 1, 2, 5, 9, 12, 30, 60, 99, 127, 999999, MAX - 1, MAX};
        for (int frames : new int[] {2, 12}) {
            for (int eyes : new int[] {0, 5}) {
                for (int first : wild) for (int second : wild) wildCalls(frames, eyes, first, second);
            }
        }
    }

    private static void wildCalls(int frames, int eyes, int first, int second) {
        ZoeStrips x = ready(frames, eyes);
        for (Range r : ranges(frames, 4)) Calls.answer(x, r.call, spread(r, first, second));
        Calls.answer(x, "hands", first, second, second);
        Calls.answer(x, "hands", first, second, first);
        Whole.told(x);
    }

    private static int[] spread(Range range, int first, int second) {
        int[] a = new int[range.usual.length];
        for (int i = 0; i < a.length; i++) a[i] = i % 2 == 0 ? first : second;
        return a;
    }
}
