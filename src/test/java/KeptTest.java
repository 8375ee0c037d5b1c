/** UNDO, IMAGES, STATUS, THE FRACTION, the counts and the digest: what is kept, how much of it, and what not. */
public final class KeptTest extends Checks {
    public static void main(String[] args) {
        sentence("as ahead of the last FLASHES, STEP told, DRAWING anew", KeptTest::undoEach);
        sentence("n FLASHES (1 .. 60; together one that may be undone)", KeptTest::undoTogether);
        sentence("at 9999 none", KeptTest::undoAtTheEnd);
        sentence("(8 at most", KeptTest::undoEight);
        sentence("DRAWINGS, what EYES KEEP, MOVES as ahead", KeptTest::undoOfTheFullest);
        sentence("behind a LAMP told, an EYE that comes none may be)", KeptTest::undoBehindLampAndEye);
        sentence("UNDO: the FLASH then. NO: none may be", KeptTest::undoNone);
        sentence("UNDO leaves all else", KeptTest::undoLeaves);
        sentence("The STEP (0 .. 11): which it was. BAD; NO: it is so", KeptTest::stepIsSo);
        sentence("A FRAME (0 .. N less 1) is drawn anew: what it was. BAD; NO: it is so", KeptTest::drawingIsSo);
        sentence("N, the LAMP's KIND, the STEP; all else as at first", KeptTest::drumAnew);
        sentence("(but for IMAGES, THE TEXT, THE FRACTION, STATUS): how many EYES there were", KeptTest::drumLeaves);
        sentence("IMAGES 0, 1 keep all but them, THE TEXT, THE FRACTION and STATUS", KeptTest::imagesKeep);
        sentence("what may be undone they keep; it goes on from one", KeptTest::imagesUndo);
        sentence("It goes on from an IMAGE: 1. BAD; NO: none was kept", KeptTest::imageNone);
        sentence("An IMAGE is kept: 1. BAD", KeptTest::imageAnew);
        sentence("STATUS: how many calls were refused as BAD, NO, FULL", KeptTest::statusByReason);
        sentence("-1: another what (counts as BAD)", KeptTest::statusAnother);
        sentence("(where others are told they count as these)", KeptTest::othersCount);
        sentence("THE FRACTION is 0 by 1 at first; lowest terms, below above 0", KeptTest::lowestTerms);
        sentence("THE FRACTION: above (0), below (1). BAD", KeptTest::partAnswers);
        sentence("How many: 0 FRAMES .. 11 bytes of THE TEXT. BAD", KeptTest::countAnswers);
        sentence("6 MOVES of all together", KeptTest::movesTogether);
        sentence("h = 1787; then h = 31 h + v for each v", KeptTest::digests);
        sentence("Of an EYE: KIND (0), KEEPS (1), MOVES (2). BAD", KeptTest::ofAnswers);
        end("KeptTest");
    }

    private static void undoEach() {
        ZoeStrips x = drum(2, 1, 3, 9, 4);
        eyes(x, 0, 1);
        x.spins(4);
        long ahead = x.digest();
        // The digest counts what may be undone; behind undo that is as ahead, too.
        x.spins(7);
        due("undo() of flashes", x.undo(), 4);
        due("digest()", x.digest(), ahead);
        x.steps(11);
        due("undo() of a step", x.undo(), 4);
        due("digest()", x.digest(), ahead);
        x.draws(2, 0);
        due("undo() of a drawing", x.undo(), 4);
        due("digest()", x.digest(), ahead);
        x.steps(0);
        x.spins(9);
        x.draws(0, 0);
        due("undo()", x.undo(), 13);
        due("undo()", x.undo(), 4);
        due("count(2)", x.count(2), 0);
        due("undo()", x.undo(), 4);
        due("digest()", x.digest(), ahead);
        due("undo()", x.undo(), 0);
        keeps(x, 0, 0);
        moves(x, 0, 0);
        counts(x, 3, 2, 1, 0, 0, 2, 0, 0, 0, 0, 0);
    }

    private static void undoTogether() {
        ZoeStrips x = drum(0, 1, 0, 0, 0, 0, 0, 0, 0);
        due("spins(1)", x.spins(1), 1);
        due("count(10)", x.count(10), 1);
        due("spins(60)", x.spins(60), 61 % 7);
        due("count(10)", x.count(10), 2);
        due("undo()", x.undo(), 1);
        due("undo()", x.undo(), 0);
        bad(x, "spins", 0);
        bad(x, "spins", 61);
        due("count(10)", x.count(10), 0);
    }

    private static void undoAtTheEnd() {
        ZoeStrips x = drum(0, 1, 0, 9, 0);
        eyes(x, 0);
        for (int i = 0; i < 166; i++) x.spins(60);
        x.spins(38);
        x.steps(2);
        x.undo();
        due("count(4)", x.count(4), 9998);
        due("spins(60) gets one in", x.spins(60), 9999 % 3);
        due("count(4)", x.count(4), 9999);
        int may = x.count(10);
        long digest = x.digest();
        due("spins(60)", x.spins(60), 9999 % 3);
        due("spins(1)", x.spins(1), 9999 % 3);
        due("none that may be undone", x.count(10), may);
        due("nothing at all is changed", x.digest(), digest);
        due("it is not refused", refusals(x), 0);
        bad(x, "spins", 61);
        bad(x, "spins", 0);
        due("steps(5)", x.steps(5), 1);
        due("draws(0, 5)", x.draws(0, 5), 0);
        due("undo()", x.undo(), 9999);
        due("undo()", x.undo(), 9999);
        due("undo()", x.undo(), 9998);
        due("undo()", x.undo(), 9960);
        due("spins(1) goes on", x.spins(1), 9961 % 3);
    }

    private static void undoEight() {
        ZoeStrips x = drum(0, 1, 0, 0, 0);
        for (int i = 1; i <= 8; i++) {
            x.spins(i);
            due("count(10)", x.count(10), i);
        }
        x.steps(7);
        due("the ninth", x.count(10), 8);
        x.draws(1, 6);
        due("the tenth", x.count(10), 8);
        due("undo()", x.undo(), 36);
        due("drawn(1)", x.drawn(1), 0);
        due("undo()", x.undo(), 36);
        due("count(2)", x.count(2), 1);
        int[] flashes = {28, 21, 15, 10, 6, 3};
        for (int i = 0; i < 6; i++) {
            due("undo()", x.undo(), flashes[i]);
            due("count(10)", x.count(10), 5 - i);
        }
        no(x, "undo");
        due("count(4): the two oldest are lost", x.count(4), 3);
        x.spins(1);
        due("count(10)", x.count(10), 1);
        due("undo()", x.undo(), 3);
    }

    /** 12 FRAMES, 5 EYES, 8 that may be undone: every one comes back whole, the last first. */
    private static void undoOfTheFullest() {
        ZoeStrips x = drum(4, 7, 1, 2, 3, 4, 5, 6, 7, 8, 9, 8, 7, 6);
        eyes(x, 5, 4, 3, 1, 0);
        for (int i = 0; i < 60; i++) x.spins(i + 1);
        x.lamp(2);
        long[] ahead = new long[8];
        for (int i = 0; i < 8; i++) {
            ahead[i] = x.digest();
            if (i == 2) x.steps(5);
            else if (i % 3 == 1) x.draws(11, i);
            else x.spins(i + 1);
        }
        due("count(10)", x.count(10), 8);
        for (int i = 7; i >= 0; i--) {
            x.undo();
            due("digest() ahead of the " + i + "th", x.digest(), ahead[i]);
        }
        drawings(x, 1, 2, 3, 4, 5, 6, 7, 8, 9, 8, 7, 6);
    }

    private static void undoBehindLampAndEye() {
        ZoeStrips x = drum(0, 1, 0, 0, 0);
        x.spins(1);
        x.spins(1);
        due("lamp(0): the one that there is", x.lamp(0), 0);
        due("count(10)", x.count(10), 0);
        no(x, "undo");
        x.spins(1);
        x.lamp(3);
        no(x, "undo");
        x.spins(1);
        x.eye(0);
        no(x, "undo");
        due("count(4)", x.count(4), 4);
        for (int i = 0; i < 4; i++) x.eye(i);
        x.spins(1);
        // Refused, they change nothing: what may be undone stays.
        full(x, "eye", 0);
        bad(x, "eye", 6);
        bad(x, "lamp", 6);
        due("undo()", x.undo(), 4);
    }

    private static void undoNone() {
        ZoeStrips x = new ZoeStrips();
        no(x, "undo");
        x.spins(5);
        due("undo()", x.undo(), 0);
        no(x, "undo");
        x.steps(1);
        x.draws(0, 0);
        due("refused ones are none", x.count(10), 0);
        no(x, "undo");
        x.spins(5);
        x.drum(2, 0, 1);
        no(x, "undo");
        x.spins(5);
        read(x, "drum 2 0 1;step 4;draw 3;turn 5;");
        no(x, "undo");
        due("count(4)", x.count(4), 5);
    }

    private static void undoLeaves() {
        ZoeStrips x = drum(0, 1, 1, 2);
        eyes(x, 0);
        x.spins(1);
        x.seen(1, 1);
        x.note(0, 1, 1, 1);
        x.mark(1, 1, 1);
        x.type('a');
        x.smear(0, 1, 1, 5);
        x.image(0);
        x.at(61);
        due("undo()", x.undo(), 0);
        counts(x, 2, 0, 1, 0, 0, 1, 0, 1, 1, 1, 0, 1);
        fraction(x, 1, 2);
        statuses(x, 1, 0, 0);
        due("from(0)", x.from(0), 1);
        due("count(4)", x.count(4), 1);
    }

    private static void stepIsSo() {
        ZoeStrips x = new ZoeStrips();
        no(x, "steps", 1);
        due("steps(11)", x.steps(11), 1);
        no(x, "steps", 11);
        due("steps(0)", x.steps(0), 11);
        no(x, "steps", 0);
        bad(x, "steps", -1);
        bad(x, "steps", 12);
        due("count(10)", x.count(10), 2);
    }

    private static void drawingIsSo() {
        ZoeStrips x = new ZoeStrips();
        x.drum(12, 0, 1);
        no(x, "draws", 11, 0);
        due("draws(11, 9)", x.draws(11, 9), 0);
        no(x, "draws", 11, 9);
        no(x, "draws", 0, 0);
        due("draws(11, 0)", x.draws(11, 0), 9);
        bad(x, "draws", 12, 0);
        bad(x, "draws", -1, 0);
        bad(x, "draws", 0, 10);
        bad(x, "draws", 0, -1);
        bad(x, "drawn", 12);
        bad(x, "drawn", -1);
        due("count(10)", x.count(10), 2);
    }

    private static void drumAnew() {
        ZoeStrips x = Whole.rich();
        due("drum(5, 4, 9)", x.drum(5, 4, 9), 3);
        counts(x, 5, 4, 9, 0, 0, 0, 0, 0, 0, 0, 0);
        drawings(x, 0, 0, 0, 0, 0);
        bad(x, "of", 0, 0);
        no(x, "undo");
        due("kinds()", x.kinds(), 63);
        due("began(NONE)", x.began(-1), 60);
        x.eye(5);
        due("is(0)", x.is(0), 63);
        keeps(x, 0);
        moves(x, 0);
    }

    private static void drumLeaves() {
        ZoeStrips x = Whole.rich();
        long above = x.part(0), below = x.part(1);
        for (int i = 0; i < 3; i++) x.eye(0);
        x.steps(3);
        x.at(-1);
        due("drum(2, 0, 0): how many eyes", x.drum(2, 0, 0), 5);
        due("drum(2, 0, 0): none", x.drum(2, 0, 0), 0);
        fraction(x, above, below);
        statuses(x, 1, 1, 1);
        due("count(11)", x.count(11), 17);
        due("from(0)", x.from(0), 1);
        counts(x, 5, 2, 3, 1, 3, 3);
        due("from(1)", x.from(1), 1);
        counts(x, 3, 1, 2);
        due("read()", x.read(), 2);
        bad(x, "drum", 1, 0, 0);
        bad(x, "drum", 13, 0, 0);
        bad(x, "drum", 2, 6, 0);
        bad(x, "drum", 2, 0, 12);
    }

    private static void imagesKeep() {
        for (int i = 0; i <= 1; i++) {
            ZoeStrips x = Whole.rich();
            long kept = x.digest();
            due("image", x.image(i), 1);
            due("image changes nothing", x.digest(), kept);
            x.drum(2, 0, 0);
            x.seen(1, 1);
            x.mark(1, 1, 1);
            due("from", x.from(i), 1);
            due("digest()", x.digest(), kept);
            due("is(1)", x.is(1), 10);
            // Not in an IMAGE: what THE TEXT, THE FRACTION, STATUS and the other IMAGE are now stays.
            x.type('x');
            x.smear(0, x.of(0, 1), 0, 0);
            x.at(61);
            x.steps(12);
            due("from", x.from(i), 1);
            due("count(11)", x.count(11), 18);
            fraction(x, 1, 1);
            statuses(x, 2, 0, 0);
            due("the other", x.from(1 - i), 1);
            due("count(0)", x.count(0), i == 0 ? 3 : 5);
            due("it again", x.from(i), 1);
            counts(x, 5, 2, 3);
        }
    }

    private static void imagesUndo() {
        ZoeStrips x = drum(0, 1, 1, 2, 3);
        x.lamp(0);
        for (int i = 1; i <= 8; i++) x.spins(i);
        x.image(0);
        for (int i = 0; i < 8; i++) x.undo();
        due("count(10)", x.count(10), 0);
        x.steps(4);
        x.draws(0, 9);
        due("from(0)", x.from(0), 1);
        due("count(10)", x.count(10), 8);
        int[] flashes = {28, 21, 15, 10, 6, 3, 1, 0};
        for (int flash : flashes) due("undo()", x.undo(), flash);
        no(x, "undo");
        drawings(x, 1, 2, 3);
        due("count(2)", x.count(2), 1);
        due("from(0) a second time", x.from(0), 1);
        for (int flash : flashes) due("undo()", x.undo(), flash);
        x.spins(2);
        x.image(1);
        x.from(0);
        due("from(1)", x.from(1), 1);
        due("undo()", x.undo(), 0);
        no(x, "undo");
    }

    private static void imageNone() {
        ZoeStrips x = new ZoeStrips();
        no(x, "from", 0);
        no(x, "from", 1);
        bad(x, "from", -1);
        bad(x, "from", 2);
        x.image(1);
        no(x, "from", 0);
        due("from(1)", x.from(1), 1);
        x.image(0);
        due("from(0)", x.from(0), 1);
        x.drum(2, 0, 0);
        due("drum leaves images", x.from(0) + x.from(1), 2);
        read(x, "drum 2 0 0;");
        due("read leaves images", x.from(0) + x.from(1), 2);
    }

    private static void imageAnew() {
        ZoeStrips x = new ZoeStrips();
        x.drum(7, 0, 0);
        due("image(0)", x.image(0), 1);
        x.drum(8, 0, 0);
        due("image(0) anew", x.image(0), 1);
        x.drum(9, 0, 0);
        x.from(0);
        due("count(0)", x.count(0), 8);
        bad(x, "image", -1);
        bad(x, "image", 2);
        no(x, "from", 1);
    }

    private static void statusByReason() {
        ZoeStrips x = new ZoeStrips();
        statuses(x, 0, 0, 0);
        x.at(61);
        statuses(x, 1, 0, 0);
        x.undo();
        statuses(x, 1, 1, 0);
        for (int i = 0; i < 6; i++) x.eye(0);
        statuses(x, 1, 1, 1);
        for (int i = 0; i < 7; i++) x.seen(1, 1);
        for (int i = 0; i < 7; i++) x.note(0, 1, 1, 1);
        for (int i = 0; i < 7; i++) x.mark(1, 1, 1);
        for (int i = 0; i < 151; i++) x.type(' ');
        statuses(x, 1, 1, 5);
        x.from(0);
        x.steps(1);
        x.draws(0, 0);
        statuses(x, 1, 4, 5);
        // Several numbers that are not as told are one call.
        x.drum(1, 6, 12);
        x.note(5, 10, 10, 10);
        statuses(x, 3, 4, 5);
    }

    private static void statusAnother() {
        ZoeStrips x = new ZoeStrips();
        for (int what : new int[] {-1, 3, MIN, MAX}) refused(x, 0, -1, "status", what);
        statuses(x, 4, 0, 0);
    }

    private static void othersCount() {
        ZoeStrips x = new ZoeStrips();
        due("smooth(2)", x.smooth(2), -10);
        due("began(-2)", x.began(-2), -10);
        due("hands(0, 1, -1)", x.hands(0, 1, -1), -10);
        due("status(3)", x.status(3), -1);
        statuses(x, 4, 0, 0);
        // Answers that are not told as BAD, NO or FULL do not count.
        x.began(24);
        x.seen(1, 9);
        x.tell();
        x.eye(0);
        x.eye(0);
        x.hands(0, 1, 99);
        x.read();
        x.note(0, 1, 1, 9);
        x.look(0);
        x.mark(1, 1, 9);
        x.ask();
        x.draws(0, 4);
        x.round();
        statuses(x, 4, 0, 0);
    }

    private static void lowestTerms() {
        ZoeStrips x = drum(0, 1, 0, 9);
        fraction(x, 0, 1);
        x.eye(0);
        x.smear(0, 5, 6, 5);
        fraction(x, 0, 1);
        x.smear(0, 9, 1, 5);
        fraction(x, 1, 2);
        x.smear(0, 9, 2, 5);
        fraction(x, 1, 4);
        x.smear(0, 9, 1, 2);
        fraction(x, 4, 5);
        x.smear(0, 0, 6, 0);
        fraction(x, 1, 1);
        x.smear(0, 9, 6, 1);
        fraction(x, 90909, 1000000);
        x.smear(0, 9, 7, 1);
        fraction(x, 90909, 1000000);
        x.smear(0, 1, 1, 1);
        fraction(x, 0, 1);
    }

    private static void partAnswers() {
        ZoeStrips x = new ZoeStrips();
        fraction(x, 0, 1);
        for (int what : new int[] {-1, 2, MIN, MAX}) bad(x, "part", what);
    }

    private static void countAnswers() {
        ZoeStrips x = Whole.rich();
        counts(x, 5, 2, 3, x.count(3), 5, 3, x.of(0, 2) + x.of(1, 2) + x.of(2, 2), 2, 1, 1, 8, 17);
        // From FRAME 1 at FLASH 3, by JERK of 1: FLASH 4 brings FRAME 2, FLASH 5 FRAME 4.
        due("count(3)", x.count(3), 4);
        for (int what : new int[] {-1, 12, MIN, MAX}) bad(x, "count", what);
    }

    private static void movesTogether() {
        ZoeStrips x = drum(0, 1, 0, 9);
        due("without eyes", x.count(6), 0);
        eyes(x, 0, 0, 0, 0, 0);
        toTheEnd(x);
        due("count(6) passes 9999", x.count(6), 49995);
    }

    private static void digests() {
        long h = 1787;
        for (long v : new long[] {2, 0, 1, 0, 0, 0, 0, 0, 0, 0, 0, 0, 0, 0, 0, 1}) h = 31 * h + v;
        due("digest() of a new object", new ZoeStrips().digest(), h);
        // All the rows full, so that the number wraps round.
        ZoeStrips x = drum(0, 1, 9, 8, 7, 6, 5, 4, 3, 2, 1, 2, 3, 4);
        eyes(x, 0, 0, 5, 5, 2);
        x.spins(1);
        long want = 1787;
        for (int i = 1; i <= 6; i++) {
            x.seen(i, i + 1);
            x.note(i % 5, i, i + 1, i + 2);
            x.mark(i, 10 * i, 5 * i);
        }
        x.smear(0, 8, 2, 5);
        for (long v : new long[] {12, 0, 1, 1, 1, 5, 5, 6, 6, 6, 1, 0, 9, 8, 7, 6, 5, 4, 3, 2, 1, 2, 3, 4}) {
            want = 31 * want + v;
        }
        for (int kind : new int[] {0, 0, 5, 5, 2}) for (long v : new long[] {kind, 8, 1}) want = 31 * want + v;
        for (int i = 1; i <= 6; i++) for (long v : new long[] {i, i + 1}) want = 31 * want + v;
        for (int i = 1; i <= 6; i++) for (long v : new long[] {i % 5, i, i + 1, i + 2}) want = 31 * want + v;
        for (int i = 1; i <= 6; i++) for (long v : new long[] {i, 10 * i, 5 * i}) want = 31 * want + v;
        // 7 and 6 are to come: PLAIN keeps its 8 if it sees neither.
        for (long v : new long[] {1, 4}) want = 31 * want + v;
        due("digest()", x.digest(), want);
        due("digest() again", x.digest(), want);
        x.at(61);
        due("STATUS is not in it", x.digest(), want);
    }

    private static void ofAnswers() {
        ZoeStrips x = drum(0, 0, 4, 4);
        eyes(x, 4, 5);
        x.spins(2);
        due("of(0, 0)", x.of(0, 0), 4);
        due("of(0, 1)", x.of(0, 1), 5);
        due("of(0, 2)", x.of(0, 2), 1);
        due("of(1, 0)", x.of(1, 0), 5);
        due("of(1, 1)", x.of(1, 1), 0);
        due("of(1, 2)", x.of(1, 2), 2);
        for (int e : new int[] {-1, 2, 4, 5, MIN, MAX}) bad(x, "of", e, 0);
        for (int what : new int[] {-1, 3, MIN, MAX}) bad(x, "of", 0, what);
        bad(new ZoeStrips(), "of", 0, 0);
    }
}
