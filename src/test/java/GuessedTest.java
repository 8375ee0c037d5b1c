/** Terms, part 2: NOTES and what an eye is, MARKS and what the lamp is, the next look. */
public final class GuessedTest extends Checks {
    public static void main(String[] args) {
        sentence("NOTES 0 .. 5, as they come", GuessedTest::notesRoom);
        sentence("of a DRAWING p (0 .. 9), KEEPING q (0 .. 9), an EYE SAW x (0 .. 9)", GuessedTest::noteNumbers);
        sentence("IS: KINDS (bits) of EYES by which all NOTES of one are so", GuessedTest::isOfOne);
        sentence("LOOK: 10 p and q by which the most of these KINDS that SEE the same are fewest", GuessedTest::looks);
        sentence("LOOK: of like ones the least; none: no KIND", GuessedTest::lookLikeOnes);
        sentence("MARKS 0 .. 5, as they come", GuessedTest::marksRoom);
        sentence("by STEP s (0 .. 11) x (0 .. 30) FRAMES passed ahead of FLASH k (0 .. 99)", GuessedTest::markNumbers);
        sentence("WHAT: KINDS of LAMPS (bits) by which all MARKS are so", GuessedTest::whatOfAll);
        sentence("ASK: 100 s and k (s 0 .. 11, k 0 .. 19)", GuessedTest::asks);
        sentence("ASK: of like ones the least; none: no KIND", GuessedTest::askLikeOnes);
        sentence("No SEEN ones (0), NOTES (1), MARKS (2): how many there were. BAD", GuessedTest::forgets);
        end("GuessedTest");
    }

    private static ZoeStrips eyed(int... kinds) {
        ZoeStrips x = new ZoeStrips();
        eyes(x, kinds);
        return x;
    }

    private static void notesRoom() {
        ZoeStrips x = eyed(0, 0);
        for (int i = 1; i <= 6; i++) due("note", x.note(i % 2, i, 0, i), i);
        full(x, "note", 0, 1, 0, 1);
        full(x, "note", 1, 1, 0, 1);
        bad(x, "note", 2, 1, 0, 1);
        bad(x, "note", 0, 1, 0, 10);
        due("is(0) has no CHILD: the notes that came stay", x.is(0), 37);
        due("count(8)", x.count(8), 6);
        due("forget(1)", x.forget(1), 6);
        due("note", x.note(0, 1, 0, 1), 1);
    }

    private static void noteNumbers() {
        for (int v = 0; v <= 9; v++) {
            ZoeStrips x = eyed(0, 1, 2, 3, 4);
            due("note of a drawing", x.note(0, v, 0, 0), 1);
            due("note of one kept", x.note(4, 0, v, 0), 2);
            due("note of one seen", x.note(2, 0, 0, v), 3);
        }
        ZoeStrips x = eyed(0, 1, 2);
        for (int v : new int[] {-1, 10, MIN, MAX}) {
            bad(x, "note", 0, v, 0, 0);
            bad(x, "note", 0, 0, v, 0);
            bad(x, "note", 0, 0, 0, v);
        }
        for (int e : new int[] {-1, 3, 4, 5, MIN, MAX}) bad(x, "note", e, 0, 0, 0);
        bad(new ZoeStrips(), "note", 0, 0, 0, 0);
    }

    private static void isOfOne() {
        ZoeStrips x = eyed(5, 5, 5, 5, 5);
        for (int e = 0; e < 5; e++) due("is() without notes", x.is(e), 63);
        due("note", x.note(4, 9, 9, 0), 1);
        due("is(4): CAT", x.is(4), 32);
        for (int e = 0; e < 4; e++) due("is(): notes of another do not count", x.is(e), 63);
        x.note(0, 0, 5, 5);
        due("is(0): OLD", x.is(0), 8);
        x.note(0, 0, 5, 2);
        due("is(0): one note less would be so", x.is(0), 0);
        due("is(4)", x.is(4), 32);
        bad(x, "is", 5);
        bad(x, "is", -1);
        bad(new ZoeStrips(), "is", 0);
        // What the eye is of a KIND in truth does not matter.
        ZoeStrips plain = eyed(0);
        plain.note(0, 4, 0, 5);
        due("is(0): CHILD", plain.is(0), 16);
    }

    /** All 100 looks, each by how many of these kinds would see the same. */
    private static int reallyLook(int kinds) {
        int best = -1, fewest = MAX;
        for (int look = 0; look <= 99 && kinds != 0; look++) {
            int[] with = new int[10];
            int most = 0;
            for (int kind = 0; kind <= 5; kind++) {
                if ((kinds >> kind & 1) == 1) most = Math.max(most, ++with[ZoeModel.saw(kind, look / 10, look % 10)]);
            }
            if (most < fewest) {
                fewest = most;
                best = look;
            }
        }
        return best;
    }

    private static void looks() {
        for (int p = 0; p <= 9; p++) {
            for (int q = 0; q <= 9; q++) {
                for (int saw = 0; saw <= 9; saw++) {
                    ZoeStrips x = eyed(0);
                    x.note(0, p, q, saw);
                    due("look(0) behind " + told("note", 0, p, q, saw), x.look(0), reallyLook(x.is(0)));
                }
            }
        }
    }

    private static void lookLikeOnes() {
        ZoeStrips x = eyed(0, 0);
        due("look(0)", x.look(0), 1);
        x.note(0, 9, 9, 0);
        due("one KIND: all looks are like ones", x.look(0), 0);
        x.note(0, 9, 9, 9);
        due("no KIND", x.look(0), -1);
        due("none is not refused", refusals(x), 0);
        due("another eye", x.look(1), 1);
        bad(x, "look", 2);
        bad(x, "look", -1);
        ZoeStrips pair = eyed(0);
        // PLAIN and CAT see the same of all but a DRAWING other than 0 that is kept: first 1 and 1.
        pair.note(0, 5, 2, 5);
        pair.note(0, 0, 5, 0);
        pair.note(0, 5, 4, 5);
        due("is(0)", pair.is(0), 33);
        due("look(0)", pair.look(0), 11);
    }

    private static void marksRoom() {
        ZoeStrips x = new ZoeStrips();
        for (int i = 1; i <= 6; i++) due("mark", x.mark(1, i * 10, 1), i);
        full(x, "mark", 1, 1, 1);
        bad(x, "mark", 12, 1, 1);
        due("count(9)", x.count(9), 6);
        due("kinds()", x.kinds(), 53);
        due("forget(2)", x.forget(2), 6);
        due("mark", x.mark(1, 1, 1), 1);
    }

    private static void markNumbers() {
        for (int s = 0; s <= 11; s++) due("mark", new ZoeStrips().mark(s, 0, 0), 1);
        for (int k = 0; k <= 99; k++) due("mark", new ZoeStrips().mark(0, k, 0), 1);
        for (int v = 0; v <= 30; v++) due("mark", new ZoeStrips().mark(0, 0, v), 1);
        ZoeStrips x = new ZoeStrips();
        for (int s : new int[] {-1, 12, MIN, MAX}) bad(x, "mark", s, 0, 0);
        for (int k : new int[] {-1, 100, MIN, MAX}) bad(x, "mark", 0, k, 0);
        for (int v : new int[] {-1, 31, MIN, MAX}) bad(x, "mark", 0, 0, v);
        x.mark(11, 96, 23);
        due("kinds(): GAS", x.kinds(), 8);
        x.forget(2);
        x.mark(11, 99, 30);
        due("kinds()", x.kinds(), 0);
    }

    private static void whatOfAll() {
        ZoeStrips x = new ZoeStrips();
        due("kinds() without marks", x.kinds(), 63);
        x.mark(3, 1, 4);
        due("kinds(): JERK, CANDLE", x.kinds(), 20);
        x.mark(3, 4, 3);
        due("kinds(): JERK", x.kinds(), 4);
        x.mark(3, 4, 4);
        due("kinds()", x.kinds(), 0);
        due("the lamp in truth does not matter", x.count(1), 0);
    }

    /** All 240 asks, each by how many of these kinds let as many frames pass. */
    private static int reallyAsk(int kinds) {
        int best = -1, fewest = MAX;
        for (int s = 0; s <= 11 && kinds != 0; s++) {
            for (int k = 0; k <= 19; k++) {
                int[] with = new int[31];
                int most = 0;
                for (int kind = 0; kind <= 5; kind++) {
                    if ((kinds >> kind & 1) == 1) most = Math.max(most, ++with[ZoeModel.passed(kind, s, k)]);
                }
                if (most < fewest) {
                    fewest = most;
                    best = 100 * s + k;
                }
            }
        }
        return best;
    }

    private static void asks() {
        for (int s = 0; s <= 11; s++) {
            for (int k = 0; k <= 20; k++) {
                for (int v = 0; v <= 24; v++) {
                    ZoeStrips x = new ZoeStrips();
                    x.mark(s, k, v);
                    due("ask() behind " + told("mark", s, k, v), x.ask(), reallyAsk(x.kinds()));
                }
            }
        }
    }

    private static void askLikeOnes() {
        ZoeStrips x = new ZoeStrips();
        due("ask()", x.ask(), 201);
        x.mark(11, 99, 0);
        due("one KIND: all asks are like ones", x.ask(), 0);
        x.mark(11, 98, 0);
        due("no KIND", x.ask(), -1);
        due("none is not refused", refusals(x), 0);
        x.forget(2);
        // By 1 ahead of FLASH 9: 1, 2 and 0; by 0 there are never three apart.
        x.mark(3, 2, 3);
        x.mark(0, 2, 0);
        x.mark(3, 10, 3);
        due("kinds(): STEADY, JERK, CANDLE", x.kinds(), 21);
        due("ask()", x.ask(), 109);
    }

    private static void forgets() {
        for (int what = 0; what <= 2; what++) {
            ZoeStrips x = eyed(0);
            for (int i = 0; i < 6; i++) {
                x.seen(1, 5);
                x.note(0, 0, 0, 1);
                x.mark(0, 0, 30);
            }
            due("forget", x.forget(what), 6);
            for (int other = 0; other <= 2; other++) due("count", x.count(7 + other), other == what ? 0 : 6);
            due("forget again", x.forget(what), 0);
            due("began(NONE)", x.began(-1), what == 0 ? 24 : 0);
            due("is(0)", x.is(0), what == 1 ? 63 : 0);
            due("kinds()", x.kinds(), what == 2 ? 63 : 0);
            bad(x, "forget", -1);
            bad(x, "forget", 3);
        }
    }
}
