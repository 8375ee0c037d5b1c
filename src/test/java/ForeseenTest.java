import java.math.BigInteger;

/** Terms, part 2: what comes and how it began. Each boundary that is named there has a test of its own. */
public final class ForeseenTest extends Checks {
    private static final int[] ROUND_60 = {4, 5, 6, 6, 8, 6, 5, 5, 3, 4, 6, 5};

    public static void main(String[] args) {
        sentence("Nothing is changed by these", ForeseenTest::nothingIsChanged);
        sentence("FLASHES go beyond 9999 in them", ForeseenTest::beyondTheEnd);
        sentence("AT: the FRAME at hand behind m (0 .. 60) FLASHES", ForeseenTest::at);
        sentence("SEES: what an EYE KEEPS behind m FLASHES", ForeseenTest::sees);
        sentence("ROUND: behind how many FLASHES (1 .. 60)", ForeseenTest::roundEnds);
        sentence("the FRAME at hand and what all EYES KEEP are as now first", ForeseenTest::roundOfAll);
        sentence("STILL for m (1 .. 60)", ForeseenTest::stillEnds);
        sentence("STEPS (bits 0 to 11)", ForeseenTest::stillBits);
        sentence("DRAWINGS at hand behind 1 .. m FLASHES are as the one at hand now", ForeseenTest::stillDrawings);
        sentence("MOST for an EYE and m (1 .. 60): the STEP (0 .. 11)", ForeseenTest::mostEnds);
        sentence("(9999 is no end here); of like ones the least; how many more", ForeseenTest::mostLikeOnes);
        sentence("1 apart at the most", ForeseenTest::smoothApart);
        sentence("any two FRAMES side by side, round and round", ForeseenTest::smoothRound);
        sentence("the first such strip (FRAME by FRAME the least DRAWING)", ForeseenTest::smoothFirst);
        sentence("how many (f = NONE), the DRAWING of a FRAME. BAD: -10", ForeseenTest::smoothAnswers);
        sentence("SEEN 0 .. 5, as they come", ForeseenTest::seenRoom);
        sentence("behind k (1 .. 30) FLASHES from FLASH 0 on", ForeseenTest::seenFlashes);
        sentence("DRAWING p (0 .. 9) was at hand", ForeseenTest::seenDrawings);
        sentence("(FRAMES 0 .. N less 1, STEPS 0 .. 11), the LAMP as it is", ForeseenTest::beganAll);
        sentence("how many; the j-th (rising)", ForeseenTest::beganRising);
        sentence("TELL: behind how many FLASHES (1 .. 30)", ForeseenTest::tellEnds);
        sentence("of like ones the least; none: there is none such", ForeseenTest::tellLikeOnes);
        sentence("to the one how many MOVES of EYE a are more by them", ForeseenTest::handsByRealFlashes);
        sentence("for the next 4 FLASHES", ForeseenTest::handsFourFlashes);
        sentence("(unlike ones; 9999 is no end here)", ForeseenTest::handsUnlike);
        sentence("each 1 less, if his own STEP is 3", ForeseenTest::handsOneLess);
        sentence("how many (k = NONE), the k-th. -5: not so many. BAD: -10", ForeseenTest::handsAnswers);
        sentence("SMEAR: by c of 10 (0 .. 10)", ForeseenTest::smearOdds);
        sentence("an EYE KEEPS x (0 .. 9) behind n (0 .. 6) FLASHES", ForeseenTest::smearAll);
        sentence("a FLASH, each apart, is seen by nobody (FRAMES pass)", ForeseenTest::smearFramesPass);
        sentence("SHOWS by a SEED (0 .. 999999), n (0 .. 60)", ForeseenTest::nightsEnds);
        sentence("X times 1103515245 and 12345, by 2147483648 what is left over", ForeseenTest::nightsByRealFlashes);
        end("ForeseenTest");
    }

    private static void nothingIsChanged() {
        Object[][] calls = {{"at", 60}, {"sees", 2, 60}, {"round"}, {"still", 60}, {"most", 2, 60, 0},
            {"most", 2, 60, 1}, {"smooth", -1}, {"smooth", 4}, {"began", -1}, {"began", 0}, {"began", 143}, {"tell"},
            {"is", 1}, {"look", 1}, {"kinds"}, {"ask"}, {"hands", 0, 2, -1}, {"hands", 2, 1, 0}, {"nights", 999, 60},
            {"of", 2, 2}, {"drawn", 4}, {"part", 0}, {"count", 11}, {"digest"}, {"status", 0}};
        String want = Whole.told(Whole.rich());
        for (Object[] call : calls) {
            int[] a = new int[call.length - 1];
            for (int i = 0; i < a.length; i++) a[i] = (Integer) call[i + 1];
            ZoeStrips x = Whole.rich();
            Calls.answer(x, (String) call[0], a);
            due(told((String) call[0], a) + " is not refused", refusals(x), 0);
            due(told((String) call[0], a) + " changes nothing", Whole.told(x).equals(want) ? 1 : 0, 1);
        }
        ZoeStrips x = Whole.rich(), y = Whole.rich();
        x.smear(2, 5, 6, 7);
        x.smear(0, 0, 0, 0);
        y.smear(0, 0, 0, 0);
        due("smear changes THE FRACTION alone", Whole.told(x).equals(Whole.told(y)) ? 1 : 0, 1);
    }

    /**
     * No lamp tells 20 FLASHES apart, so a drum that stands at FLASH 9999 as it did at 219 foresees the same.
     * The numbers of FRAMES are such that 20 FLASHES bring the same one to hand.
     */
    private static void beyondTheEnd() {
        foreseesAlike(0, 3, 1, 5, 9, 0);
        foreseesAlike(1, 1, 0, 9, 2, 7, 4);
        foreseesAlike(2, 3, 1, 2, 3, 4, 9, 8, 7, 6, 0, 5);
        foreseesAlike(3, 1, 0, 9, 2, 7, 4);
        foreseesAlike(3, 0, 3, 8, 0, 1, 9);
        foreseesAlike(4, 2, 0, 3, 6, 9, 0, 1, 8, 5);
        foreseesAlike(4, 0, 0, 3, 6, 9);
        foreseesAlike(5, 0, 9, 0, 4, 4);
    }

    private static void foreseesAlike(int lamp, int step, int... drawings) {
        ZoeStrips early = drum(lamp, step, drawings), late = drum(lamp, step, drawings);
        eyes(early, 0, 1, 2, 3, 4);
        eyes(late, 0, 1, 2, 3, 4);
        for (int i = 0; i < 3; i++) early.spins(60);
        early.spins(39);
        toTheEnd(late);
        due("count(4)", early.count(4), 219);
        due("count(4)", late.count(4), 9999);
        due("count(3)", late.count(3), early.count(3));
        for (int e = 0; e < 5; e++) due("of", late.of(e, 1), early.of(e, 1));
        for (int m : new int[] {0, 1, 2, 3, 4, 5, 9, 10, 59, 60}) {
            alike(early, late, "at", m);
            for (int e = 0; e < 5; e++) alike(early, late, "sees", e, m);
            if (m > 0) alike(early, late, "still", m);
        }
        alike(early, late, "round");
        for (int e = 0; e < 5; e++) {
            alike(early, late, "most", e, 60, 0);
            alike(early, late, "most", e, 60, 1);
            alike(early, late, "hands", e, (e + 1) % 5, -1);
            alike(early, late, "hands", e, (e + 1) % 5, 0);
            late.smear(e, early.of(e, 1), 6, 4);
            early.smear(e, early.of(e, 1), 6, 4);
            fraction(late, early.part(0), early.part(1));
        }
        alike(early, late, "nights", 77, 60);
        due("count(4) stays", late.count(4), 9999);
    }

    private static void alike(ZoeStrips early, ZoeStrips late, String call, int... a) {
        due(told(call, a) + " at 9999", Calls.answer(late, call, a), Calls.answer(early, call, a));
    }

    private static void at() {
        for (int lamp = 0; lamp <= 5; lamp++) {
            ZoeStrips x = drum(lamp, 3, 0, 0, 0, 0, 0, 0, 0);
            x.spins(4);
            due("at(0)", x.at(0), x.count(3));
            for (int m = 1; m <= 60; m++) {
                int ahead = x.at(m);
                x.spins(m);
                due("at(" + m + ")", ahead, x.count(3));
                x.undo();
            }
        }
        bad(new ZoeStrips(), "at", -1);
        bad(new ZoeStrips(), "at", 61);
    }

    private static void sees() {
        ZoeStrips x = drum(4, 3, 3, 0, 7, 1, 9, 8, 2);
        eyes(x, 1, 2, 3, 4, 5);
        x.spins(4);
        for (int e = 0; e < 5; e++) {
            due("sees(e, 0)", x.sees(e, 0), x.of(e, 1));
            for (int m : new int[] {1, 2, 3, 29, 59, 60}) {
                int ahead = x.sees(e, m);
                x.spins(m);
                due(told("sees", e, m), ahead, x.of(e, 1));
                x.undo();
            }
        }
        bad(x, "sees", 0, -1);
        bad(x, "sees", 0, 61);
        bad(x, "sees", -1, 0);
        bad(x, "sees", 5, 0);
    }

    /** By real flashes, one by one: behind how many it is as now, looked for up to some bound. */
    private static int reallyRound(ZoeStrips x, int bound) {
        int frame = x.count(3), eyes = x.count(5);
        int[] keeps = new int[eyes];
        for (int e = 0; e < eyes; e++) keeps[e] = x.of(e, 1);
        for (int m = 1; m <= bound; m++) {
            boolean same = x.spins(1) == frame;
            for (int e = 0; e < eyes; e++) same &= x.of(e, 1) == keeps[e];
            if (same) return m;
        }
        return -1;
    }

    private static void roundEnds() {
        due("round() of a drum that stands", drum(0, 0, 4, 4).round(), 1);
        ZoeStrips sixty = drum(4, 11, ROUND_60);
        eyes(sixty, 4, 5);
        sixty.spins(8);
        due("round() at its end", sixty.round(), 60);
        due("by real flashes", reallyRound(sixty, 70), 60);
        ZoeStrips more = drum(4, 5, 0, 0, 0, 0, 1, 7, 0, 9, 1);
        eyes(more, 2);
        due("round() beyond its end", more.round(), -1);
        due("none is not refused", refusals(more), 0);
        due("by real flashes", reallyRound(more, 70), 61);
    }

    private static void roundOfAll() {
        ZoeStrips x = drum(0, 1, 0, 9);
        due("without eyes", x.round(), 2);
        eyes(x, 0);
        due("a plain eye", x.round(), 2);
        eyes(x, 1);
        x.spins(20);
        due("both, as they come round", x.round(), 2);
        ZoeStrips cat = drum(0, 1, 7, 7, 7);
        due("without eyes", cat.round(), 3);
        eyes(cat, 5);
        due("the cat blinks", cat.round(), 6);
        eyes(cat, 0);
        due("a plain eye keeps 0 now, and never again", cat.round(), -1);
        cat.spins(1);
        due("the plain one keeps 7 now", cat.round(), 6);
        // By 0 one FRAME passes ahead of FLASHES 1, 3 and 5.
        due("by JERK", drum(2, 0, 0, 0, 0).round(), 5);
        ZoeStrips late = drum(0, 0, 0, 0);
        late.draws(0, 5);
        late.eye(3);
        due("OLD goes up to 4 and stays", late.round(), -1);
    }

    private static void stillEnds() {
        // GAS by 0 brings one FRAME more with each 4th FLASH: the last of 12 comes with the 44th.
        ZoeStrips x = drum(3, 0, 0, 0, 0, 0, 0, 0, 0, 0, 0, 0, 0, 9);
        due("still(43) has step 0", x.still(43) & 1, 1);
        due("still(44) has it not", x.still(44) & 1, 0);
        due("still(43) has step 6", x.still(43) >> 6 & 1, 1);
        due("still(44) has it not", x.still(44) >> 6 & 1, 0);
        due("still(60) has none", x.still(60), 0);
        due("still(1)", drum(0, 1, 0, 9).still(1), 1365);
        due("still(60)", drum(0, 1, 0, 9).still(60), 1365);
        due("still(60) of one drawing", drum(4, 7, 3, 3, 3).still(60), 4095);
        bad(x, "still", 0);
        bad(x, "still", 61);
    }

    private static void stillBits() {
        for (int s = 0; s <= 11; s++) {
            // Of 12 FRAMES only the one s further is drawn as FRAME 0 is.
            int[] drawings = new int[12];
            drawings[0] = 5;
            drawings[s] = 5;
            due("still(1), frame " + s, drum(0, 1, drawings).still(1), 1 | 1 << s);
        }
        for (int n = 2; n <= 12; n++) {
            // FRAME 0 alone is drawn so: the steps that go round and round to it stand still.
            int[] drawings = new int[n];
            drawings[0] = 1;
            int bits = 0;
            for (int s = 0; s <= 11; s += n) bits |= 1 << s;
            due("still(60) of " + n, drum(0, 1, drawings).still(60), bits);
        }
    }

    private static void stillDrawings() {
        // DRAWINGS count, not FRAMES; one that went and came back is not still.
        due("still(1)", drum(0, 0, 4, 0, 4, 0).still(1), 0x555);
        due("still(2): steps 1, 3 .. come back", drum(0, 0, 4, 0).still(2), 0x555);
        ZoeStrips x = drum(0, 0, 4, 0, 0);
        x.spins(2);
        x.steps(2);
        x.spins(1);
        due("count(3)", x.count(3), 2);
        // From FRAME 2 on, FRAME 1 comes behind 1 FLASH by 2, and FRAME 0 behind 2.
        due("still(1) from now on", x.still(1), mask(0) | mask(2));
        due("still(2) from now on", x.still(2), mask(0));
    }

    /** Bits of the steps that leave so much by 3. */
    private static int mask(int left) {
        int bits = 0;
        for (int s = left; s <= 11; s += 3) bits |= 1 << s;
        return bits;
    }

    private static void mostEnds() {
        for (int s = 1; s <= 11; s++) {
            int[] drawings = new int[12];
            drawings[s] = 9;
            ZoeStrips x = drum(0, 1, drawings);
            x.eye(0);
            due("most(0, 1, 0)", x.most(0, 1, 0), s);
            due("most(0, 1, 1)", x.most(0, 1, 1), 1);
        }
        ZoeStrips x = drum(0, 0, 0, 9);
        x.eye(0);
        due("most(0, 60, 1)", x.most(0, 60, 1), 60);
        due("most(0, 59, 1)", x.most(0, 59, 1), 59);
        bad(x, "most", 0, 0, 0);
        bad(x, "most", 0, 61, 0);
        bad(x, "most", 0, 1, -1);
        bad(x, "most", 0, 1, 2);
        bad(x, "most", 1, 1, 0);
    }

    private static void mostLikeOnes() {
        ZoeStrips x = drum(0, 7, 0, 9);
        x.eye(0);
        due("steps 1, 3 .. are like ones", x.most(0, 9, 0), 1);
        ZoeStrips flat = drum(0, 7, 0, 0);
        flat.eye(0);
        due("all are like ones", flat.most(0, 9, 0), 0);
        due("none more", flat.most(0, 9, 1), 0);
        // By 12, were it a STEP, SUN would leave FRAME 0 at hand, and the eye would see it.
        ZoeStrips sun = drum(5, 1, 5, 0, 0, 0, 0, 0, 0, 0, 0, 0, 0, 0);
        sun.eye(0);
        due("11 is the last: the step", sun.most(0, 1, 0), 0);
        due("11 is the last: how many more", sun.most(0, 1, 1), 0);
        x.steps(1);
        toTheEnd(x);
        moves(x, 9999);
        due("9999 is no end: the step", x.most(0, 60, 0), 1);
        due("9999 is no end: how many more", x.most(0, 60, 1), 60);
        due("9999 is no end: nights", x.nights(1, 60) > 0 ? 1 : 0, 1);
    }

    private static void smooths(int[] drawings, int fewest, int... strip) {
        ZoeStrips x = drum(0, 1, drawings);
        due("smooth(NONE)", x.smooth(-1), fewest);
        for (int f = 0; f < strip.length; f++) due("smooth(" + f + ")", x.smooth(f), strip[f]);
        drawings(x, drawings);
    }

    private static void smoothApart() {
        smooths(new int[] {0, 1}, 0, 0, 1);
        smooths(new int[] {9, 8}, 0, 9, 8);
        smooths(new int[] {0, 2}, 1, 0, 0);
        smooths(new int[] {9, 7}, 1, 6, 7);
        smooths(new int[] {4, 4, 4, 6, 4}, 1, 4, 4, 4, 3, 4);
        smooths(new int[] {4, 4, 5, 6, 5}, 0, 4, 4, 5, 6, 5);
        // Up by 2 and down by 1 and 1, and the other way.
        smooths(new int[] {0, 2, 1}, 1, 0, 0, 1);
        smooths(new int[] {2, 0, 1}, 1, 0, 0, 1);
        smooths(new int[] {9, 7, 8}, 1, 7, 7, 8);
        smooths(new int[] {0, 9, 0, 9}, 2, 0, 0, 0, 0);
    }

    private static void smoothRound() {
        // Side by side 0 1 2 3 goes smoothly, but 3 stands beside 0, round and round.
        smooths(new int[] {0, 1, 2, 3}, 1, 0, 1, 2, 1);
        smooths(new int[] {0, 1, 2}, 1, 0, 1, 0);
        smooths(new int[] {0, 1, 1}, 0, 0, 1, 1);
        smooths(new int[] {4, 0, 1, 2, 3, 4, 5, 6, 7, 8, 9, 9}, 5, 1, 0, 1, 2, 3, 4, 5, 6, 5, 4, 3, 2);
        smooths(new int[] {0, 1, 2, 3, 4, 5, 6, 7, 8, 9, 9, 9}, 4, 8, 7, 6, 5, 4, 5, 6, 7, 8, 9, 9, 9);
    }

    private static void smoothFirst() {
        smooths(new int[] {3, 5}, 1, 3, 2);
        smooths(new int[] {9, 0}, 1, 0, 0);
        smooths(new int[] {0, 9}, 1, 0, 0);
        smooths(new int[] {0, 5, 9}, 2, 0, 0, 0);
        smooths(new int[] {1, 1, 9}, 1, 1, 1, 0);
        smooths(new int[] {9, 9, 0}, 1, 9, 9, 8);
    }

    private static void smoothAnswers() {
        for (int n : new int[] {2, 12}) {
            ZoeStrips x = drum(0, 1, new int[n]);
            due("smooth(NONE)", x.smooth(-1), 0);
            due("the last frame", x.smooth(n - 1), 0);
            bad10(x, "smooth", n);
            bad10(x, "smooth", -2);
            bad10(x, "smooth", MIN);
            bad10(x, "smooth", MAX);
        }
    }

    private static void seenRoom() {
        ZoeStrips x = drum(0, 1, 5, 5);
        for (int i = 1; i <= 6; i++) due("seen", x.seen(i, 5), i);
        full(x, "seen", 7, 5);
        bad(x, "seen", 0, 5);
        due("began(NONE)", x.began(-1), 24);
        due("forget(0)", x.forget(0), 6);
        due("seen", x.seen(30, 4), 1);
        due("began(NONE)", x.began(-1), 0);
    }

    private static void seenFlashes() {
        ZoeStrips x = drum(2, 0, 1, 2, 3, 4, 5, 6, 7, 8, 9, 0, 0, 0);
        // From FLASH 0 on, whatever the FLASH is now: by JERK 1 FRAME more passes ahead of FLASH 1.
        x.spins(2);
        due("seen(1, 3)", x.seen(1, 3), 1);
        due("began(NONE)", x.began(-1), 12);
        due("began(0)", x.began(0), 1);
        due("began(1): frame 1, step 0", x.began(1), 12);
        x.forget(0);
        // Ahead of 30 FLASHES by STEP 0, 15 FRAMES passed: from FRAME 0 to FRAME 3.
        due("seen(30, 4)", x.seen(30, 4), 1);
        due("began(0)", x.began(0), 0);
        bad(x, "seen", 0, 1);
        bad(x, "seen", 31, 1);
    }

    private static void seenDrawings() {
        for (int p = 0; p <= 9; p++) {
            ZoeStrips x = drum(0, 1, p, p);
            due("seen", x.seen(1, p), 1);
            due("began(NONE)", x.began(-1), 24);
            x.seen(1, 9 - p);
            due("began(NONE)", x.began(-1), 0);
        }
        bad(new ZoeStrips(), "seen", 1, -1);
        bad(new ZoeStrips(), "seen", 1, 10);
    }

    private static void beganAll() {
        for (int n = 2; n <= 12; n++) {
            ZoeStrips x = drum(0, 1, new int[n]);
            due("began(NONE)", x.began(-1), 12 * n);
            due("the first", x.began(0), 0);
            due("the last", x.began(12 * n - 1), 12 * n - 1);
            due("one more", x.began(12 * n), -5);
        }
        ZoeStrips x = drum(0, 1, 9, 0);
        x.seen(1, 9);
        due("began(1) by STEADY", x.began(1), 2);
        x.lamp(1);
        due("began(1) by TWICE", x.began(1), 1);
        x.lamp(5);
        due("began(0) by SUN", x.began(0), 2);
        // 30 FLASHES by an odd STEP bring FRAME 6 of 12 to hand from FRAME 0, by an even one from FRAME 6.
        ZoeStrips far = drum(0, 1, 0, 0, 0, 0, 0, 0, 9, 0, 0, 0, 0, 0);
        far.seen(30, 9);
        int[] want = {1, 3, 5, 7, 9, 11, 72, 74, 76, 78, 80, 82};
        due("began(NONE)", far.began(-1), 12);
        for (int j = 0; j < 12; j++) due("began(" + j + ")", far.began(j), want[j]);
    }

    private static void beganRising() {
        ZoeStrips x = drum(0, 1, 0, 1, 2);
        x.seen(1, 0);
        int[] want = {0, 3, 6, 9, 14, 17, 20, 23, 25, 28, 31, 34};
        due("began(NONE)", x.began(-1), 12);
        for (int j = 0; j < 12; j++) due("began(" + j + ")", x.began(j), want[j]);
        due("began(12)", x.began(12), -5);
        due("began(MAX)", x.began(MAX), -5);
        due("-5 is not refused", refusals(x), 0);
        bad10(x, "began", -2);
        bad10(x, "began", MIN);
        x.seen(1, 1);
        due("began(NONE)", x.began(-1), 0);
        due("began(0)", x.began(0), -5);
    }

    private static void tellEnds() {
        ZoeStrips late = drum(4, 0, 2, 0, 2, 8, 2);
        late.seen(26, 2);
        late.seen(17, 2);
        due("tell() at its end", late.tell(), 30);
        due("tell() parts best", late.tell(), reallyTell(late));
        due("tell() at its beginning", drum(0, 1, 1, 2).tell(), 1);
        // Behind 31 FLASHES these would be parted better, and the next ones ahead of the first.
        ZoeStrips later = drum(3, 1, 0, 3, 0, 0, 2, 3, 3, 0, 0, 0, 2, 2);
        later.seen(13, 3);
        later.seen(5, 0);
        due("tell() looks no further than 30", later.tell(), reallyTell(later));
        ZoeStrips sooner = drum(3, 1, 0, 1, 2, 1, 1, 0, 2, 1, 2);
        sooner.seen(9, 2);
        due("tell() looks at 1 at least", sooner.tell(), reallyTell(sooner));
    }

    /** By the answers of began alone: what most of those that fit have in common, behind k flashes. */
    private static int reallyTell(ZoeStrips x) {
        int best = -1, fewest = MAX, n = x.count(0), lamp = x.count(1);
        int[] fitting = new int[x.began(-1)], strip = new int[n];
        for (int j = 0; j < fitting.length; j++) fitting[j] = x.began(j);
        for (int f = 0; f < n; f++) strip[f] = x.drawn(f);
        for (int k = 1; k <= 30; k++) {
            int[] with = new int[10];
            int most = 0;
            for (int code : fitting) {
                int frame = code / 12;
                for (int flash = 1; flash <= k; flash++) frame += ZoeModel.passed(lamp, code % 12, flash);
                most = Math.max(most, ++with[strip[frame % n]]);
            }
            if (most < fewest) {
                fewest = most;
                best = k;
            }
        }
        return best;
    }

    private static void tellLikeOnes() {
        ZoeStrips flat = drum(0, 1, 3, 3, 3);
        due("all are alike", flat.tell(), 1);
        flat.seen(30, 4);
        due("none such", flat.tell(), -1);
        due("none is not refused", refusals(flat), 0);
        // FRAME 3 by STEP 5 of 12 alone: all that one has is alike.
        ZoeStrips one = drum(0, 1, 0, 1, 2, 3, 4, 5, 6, 7, 8, 9, 0, 1);
        one.seen(1, 8);
        one.seen(2, 1);
        one.seen(3, 6);
        due("began(NONE)", one.began(-1), 1);
        due("began(0)", one.began(0), 41);
        due("tell() of one alone", one.tell(), 1);
        ZoeStrips x = drum(3, 1, 0, 1, 2, 2, 5);
        x.seen(2, 2);
        due("tell()", x.tell(), reallyTell(x));
        x.seen(7, 5);
        due("tell()", x.tell(), reallyTell(x));
    }

    /** Pairs that rest, as bits 4 i and j, by real flashes. */
    private static int resting(Whole.Maker maker, int a, int b) {
        int[] one = new int[7], other = new int[7];
        for (int sum = 0; sum <= 6; sum++) {
            ZoeStrips x = maker.make();
            x.steps(sum);
            int ofOne = x.of(a, 2), ofOther = x.of(b, 2);
            x.spins(4);
            one[sum] = x.of(a, 2) - ofOne;
            other[sum] = x.of(b, 2) - ofOther;
        }
        int bits = 0;
        for (int i = 0; i <= 3; i++) {
            for (int j = 0; j <= 3; j++) {
                boolean rests = true;
                for (int z = 0; z <= 3; z++) {
                    rests &= one[z + j] - (z == 3 ? 1 : 0) <= one[i + j] - (i == 3 ? 1 : 0);
                    rests &= other[i + z] - (z == 3 ? 1 : 0) <= other[i + j] - (j == 3 ? 1 : 0);
                }
                if (rests) bits |= 1 << 4 * i + j;
            }
        }
        return bits;
    }

    private static void handsAgree(Whole.Maker maker, int a, int b) {
        ZoeStrips x = maker.make();
        int bits = resting(maker, a, b), k = 0;
        due(told("hands", a, b, -1), x.hands(a, b, -1), Integer.bitCount(bits));
        for (int pair = 0; pair < 16; pair++) {
            if ((bits >> pair & 1) == 0) continue;
            due(told("hands", a, b, k), x.hands(a, b, k), pair / 4 * 10 + pair % 4);
            k++;
        }
        due(told("hands", a, b, k), x.hands(a, b, k), -5);
    }

    private static void handsByRealFlashes() {
        int[][] strips = {{0, 9}, {0, 3, 1}, {5, 0, 0, 9}, {1, 2, 9, 4, 7}, {0, 0, 0, 0, 0, 0, 9, 1, 0, 0, 2, 0}};
        for (int lamp = 0; lamp <= 5; lamp++) {
            for (int[] strip : strips) {
                int kind = lamp;
                Whole.Maker maker = () -> {
                    ZoeStrips x = drum(kind, 11, strip);
                    eyes(x, 0, 1, 2, 4, 5);
                    x.spins(3);
                    return x;
                };
                for (int a = 0; a < 5; a++) handsAgree(maker, a, (a + 2) % 5);
            }
        }
    }

    private static void handsFourFlashes() {
        // FRAME 4 comes with the 4th FLASH by 1 together, FRAME 5 with the 5th: that one counts no more.
        for (int far = 1; far <= 11; far++) {
            int[] strip = new int[12];
            strip[far] = 9;
            Whole.Maker maker = () -> {
                ZoeStrips x = drum(0, 11, strip);
                eyes(x, 0, 2);
                return x;
            };
            handsAgree(maker, 0, 1);
            handsAgree(maker, 1, 0);
        }
    }

    private static void handsUnlike() {
        ZoeStrips x = drum(0, 1, 0, 9);
        eyes(x, 0, 0, 0, 0, 0);
        for (int e = 0; e < 5; e++) bad10(x, "hands", e, e, -1);
        for (int e : new int[] {-1, 5, MIN, MAX}) {
            bad10(x, "hands", e, 0, -1);
            bad10(x, "hands", 0, e, -1);
            bad10(x, "hands", e, e, -1);
        }
        due("hands(4, 0, NONE)", x.hands(4, 0, -1), 4);
        toTheEnd(x);
        moves(x, 9999, 9999);
        due("9999 is no end", x.hands(4, 0, -1), 4);
    }

    private static void handsOneLess() {
        // Every STEP together shows a CAT as many moves, so only the one less by 3 counts.
        ZoeStrips x = drum(0, 1, 7, 7);
        eyes(x, 5, 5);
        due("hands(0, 1, NONE)", x.hands(0, 1, -1), 9);
        int[] pairs = {0, 1, 2, 10, 11, 12, 20, 21, 22};
        for (int k = 0; k < 9; k++) due("hands(0, 1, " + k + ")", x.hands(0, 1, k), pairs[k]);
        due("hands(0, 1, 9)", x.hands(0, 1, 9), -5);
        // FRAME 6 of 12 is at hand every other FLASH by 6 together: 4 moves less 1 are more than any other.
        ZoeStrips far = drum(0, 0, 0, 0, 0, 0, 0, 0, 9, 0, 0, 0, 0, 0);
        eyes(far, 0, 0);
        due("hands(0, 1, 5): both by 3", far.hands(0, 1, 5), 33);
    }

    private static void handsAnswers() {
        ZoeStrips x = drum(0, 1, 0, 9);
        eyes(x, 0, 0);
        due("hands(0, 1, NONE)", x.hands(0, 1, -1), 4);
        due("hands(0, 1, 3)", x.hands(0, 1, 3), 21);
        due("hands(0, 1, 4)", x.hands(0, 1, 4), -5);
        due("hands(0, 1, MAX)", x.hands(0, 1, MAX), -5);
        due("-5 is not refused", refusals(x), 0);
        bad10(x, "hands", 0, 1, -2);
        bad10(x, "hands", 0, 1, MIN);
        bad10(x, "hands", 0, 2, -1);
        bad10(new ZoeStrips(), "hands", 0, 1, -1);
    }

    private static void smears(ZoeStrips x, int e, int saw, int n, int c, long above, long below) {
        due(told("smear", e, saw, n, c), x.smear(e, saw, n, c), 1);
        fraction(x, above, below);
    }

    private static void smearOdds() {
        ZoeStrips x = drum(0, 1, 0, 9);
        x.eye(0);
        smears(x, 0, 9, 1, 0, 1, 1);
        smears(x, 0, 0, 1, 0, 0, 1);
        smears(x, 0, 9, 1, 10, 0, 1);
        smears(x, 0, 0, 1, 10, 1, 1);
        for (int c = 1; c <= 9; c++) {
            due("smear", x.smear(0, 9, 1, c), 1);
            due("chance by " + c, x.part(0) * 10, (10 - c) * x.part(1));
        }
        smears(x, 0, 9, 1, 5, 1, 2);
        smears(x, 0, 9, 1, 4, 3, 5);
        smears(x, 0, 9, 1, 3, 7, 10);
        bad(x, "smear", 0, 0, 0, -1);
        bad(x, "smear", 0, 0, 0, 11);
        fraction(x, 7, 10);
    }

    /** All the 2^n ways in which flashes are seen or not, each by its odds. */
    private static long ways(ZoeStrips x, int e, int saw, int n, int c) {
        long sum = 0;
        int kind = x.of(e, 0), keptNow = x.of(e, 1);
        int[] atHand = new int[n];
        for (int i = 0; i < n; i++) atHand[i] = x.drawn(x.at(i + 1));
        for (int way = 0; way < 1 << n; way++) {
            int kept = keptNow;
            long odds = 1;
            for (int i = 0; i < n; i++) {
                boolean unseen = (way >> i & 1) == 1;
                odds *= unseen ? c : 10 - c;
                if (!unseen) kept = ZoeModel.saw(kind, atHand[i], kept);
            }
            if (kept == saw) sum += odds;
        }
        return sum;
    }

    private static void smearAll() {
        for (int n = 0; n <= 6; n++) {
            for (int e = 0; e < 5; e++) {
                for (int c : new int[] {0, 3, 10}) {
                    ZoeStrips x = drum(2, 1, 3, 9, 0, 6);
                    eyes(x, 1, 2, 3, 4, 5);
                    x.spins(1);
                    long together = 0;
                    for (int saw = 0; saw <= 9; saw++) {
                        long above = ways(x, e, saw, n, c);
                        BigInteger whole = BigInteger.TEN.pow(n);
                        long divisor = whole.gcd(BigInteger.valueOf(above)).longValue();
                        smears(x, e, saw, n, c, above / divisor, whole.longValue() / divisor);
                        together += above;
                    }
                    due("all chances together", together, (long) Math.pow(10, n));
                }
            }
        }
        ZoeStrips x = drum(0, 1, 0, 9);
        x.eye(0);
        bad(x, "smear", 0, 0, -1, 0);
        bad(x, "smear", 0, 0, 7, 0);
        bad(x, "smear", 0, -1, 0, 0);
        bad(x, "smear", 0, 10, 0, 0);
        bad(x, "smear", 1, 0, 0, 0);
        bad(x, "smear", -1, 0, 0, 0);
    }

    private static void smearFramesPass() {
        // 0 1 2: seen or not, FRAME 2 is at hand with the second FLASH, so 2 is kept only if that is seen.
        ZoeStrips x = drum(0, 1, 0, 1, 2);
        x.eye(0);
        smears(x, 0, 2, 2, 4, 3, 5);
        smears(x, 0, 1, 2, 4, 6, 25);
        smears(x, 0, 0, 2, 4, 4, 25);
        due("count(4)", x.count(4), 0);
    }

    private static void nightsEnds() {
        ZoeStrips x = drum(0, 3, 0, 1, 2, 3, 4, 5, 6, 7, 8, 9, 8, 7);
        eyes(x, 0, 1);
        due("nights(0, 0)", x.nights(0, 0), 0);
        due("nights(999999, 0)", x.nights(999999, 0), 0);
        bad(x, "nights", -1, 0);
        bad(x, "nights", 1000000, 0);
        bad(x, "nights", 0, -1);
        bad(x, "nights", 0, 61);
        due("without eyes", new ZoeStrips().nights(999999, 60), 0);
    }

    private static int reallyNights(ZoeStrips x, int seed, int n) {
        int before = x.count(6);
        BigInteger number = BigInteger.valueOf(seed);
        for (int i = 0; i < n; i++) {
            number = number.multiply(BigInteger.valueOf(1103515245)).add(BigInteger.valueOf(12345))
                    .mod(BigInteger.valueOf(2147483648L));
            x.steps(number.intValueExact() / 65536 % 12);
            x.spins(1);
        }
        return x.count(6) - before;
    }

    private static void nightsByRealFlashes() {
        for (int lamp = 0; lamp <= 5; lamp++) {
            for (int seed : new int[] {0, 1, 2, 12345, 999998, 999999}) {
                for (int n : new int[] {1, 2, 3, 30, 59, 60}) {
                    ZoeStrips x = drum(lamp, 3, 0, 1, 2, 3, 4, 5, 6, 7, 8, 9, 8, 7);
                    eyes(x, 0, 1, 2, 3, 5);
                    x.spins(5);
                    int foreseen = x.nights(seed, n);
                    due(told("nights", seed, n), foreseen, reallyNights(x, seed, n));
                }
            }
        }
    }
}
