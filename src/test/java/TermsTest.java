/** Terms, part 1: the drum, lamps, eyes, a flash. Each boundary that is named there has a test of its own. */
public final class TermsTest extends Checks {
    public static void main(String[] args) {
        sentence("N FRAMES (2 .. 12; 2 at first)", TermsTest::frames);
        sentence("each with a DRAWING (0 .. 9; 0 at first)", TermsTest::drawing);
        sentence("a LAMP of a KIND (0 at first)", TermsTest::lampKind);
        sentence("a STEP (0 .. 11; 1 at first)", TermsTest::step);
        sentence("the FRAME at hand (0 at first)", TermsTest::frameAtHand);
        sentence("EYES 0 .. 4, as they come", TermsTest::eyesAsTheyCome);
        sentence("what one KEEPS (0 .. 9; 0 at first)", TermsTest::keepsAtFirst);
        sentence("MOVES (0 .. 9999; 0 at first)", TermsTest::movesAtFirst);
        sentence("FLASHES have numbers, 0 at first (9999 at most)", TermsTest::flashes);
        sentence("KINDS of LAMPS", TermsTest::everyLamp);
        sentence("0 STEADY: s", TermsTest::steady);
        sentence("1 TWICE (under STEADY): twice STEADY", TermsTest::twice);
        sentence("2 JERK (under STEADY): STEADY, 1 more, if k is an odd number", TermsTest::jerk);
        sentence("3 GAS (under TWICE): TWICE, 1 more, if 4 divides k", TermsTest::gas);
        sentence("4 CANDLE (under JERK): JERK, but 0, if k by 5 leaves 4 over", TermsTest::candle);
        sentence("5 SUN (under STEADY): STEADY, 1 at least", TermsTest::sun);
        sentence("KINDS of EYES", TermsTest::everyEye);
        sentence("0 PLAIN: p", TermsTest::plain);
        sentence("1 LAZY (under PLAIN): half (cut) of PLAIN and q together", TermsTest::lazy);
        sentence("2 SHARP (under PLAIN): PLAIN, but q, if that is 1 from it", TermsTest::sharp);
        sentence("3 OLD (under LAZY): LAZY, but q, if p is 0", TermsTest::old);
        sentence("4 CHILD (under SHARP): SHARP, 1 more (9 at most), if that is above q", TermsTest::child);
        sentence("5 CAT (under PLAIN): PLAIN, but 0, if that is q", TermsTest::cat);
        sentence("A FLASH: its number is one more", TermsTest::oneMore);
        sentence("as the LAMP tells by that number", TermsTest::byThatNumber);
        sentence("so many further, round and round", TermsTest::roundAndRound);
        sentence("if that is not what it KEEPS, MOVES are one more", TermsTest::moveOrNot);
        sentence("it KEEPS what it SEES", TermsTest::keepsWhatItSees);
        sentence("MOVES are one more (9999 at most)", TermsTest::movesEnd);
        end("TermsTest");
    }

    private static void frames() {
        due("count(0) at first", new ZoeStrips().count(0), 2);
        for (int n = 2; n <= 12; n++) {
            ZoeStrips x = new ZoeStrips();
            due("drum", x.drum(n, 0, 1), 0);
            due("count(0)", x.count(0), n);
            due("the last frame", x.drawn(n - 1), 0);
            bad(x, "drawn", n);
            bad(x, "draws", n, 1);
            due("at(n - 1)", x.at(n - 1), n - 1);
            due("at(n)", x.at(n), 0);
        }
        bad(new ZoeStrips(), "drum", 1, 0, 1);
        bad(new ZoeStrips(), "drum", 13, 0, 1);
    }

    private static void drawing() {
        drawings(new ZoeStrips(), 0, 0);
        ZoeStrips x = new ZoeStrips();
        x.drum(12, 0, 1);
        drawings(x, new int[12]);
        for (int p = 1; p <= 9; p++) due("draws", x.draws(11, p), p - 1);
        due("draws(11, 0)", x.draws(11, 0), 9);
        drawings(x, new int[12]);
        bad(x, "draws", 0, -1);
        bad(x, "draws", 0, 10);
    }

    private static void lampKind() {
        ZoeStrips x = new ZoeStrips();
        due("count(1) at first", x.count(1), 0);
        due("lamp(5)", x.lamp(5), 0);
        for (int kind = 0; kind <= 5; kind++) {
            due("drum", x.drum(2, kind, 1), 0);
            due("count(1)", x.count(1), kind);
            due("lamp", x.lamp(5 - kind), kind);
            due("count(1)", x.count(1), 5 - kind);
        }
        bad(x, "lamp", -1);
        bad(x, "lamp", 6);
        bad(x, "drum", 2, -1, 1);
        bad(x, "drum", 2, 6, 1);
    }

    private static void step() {
        ZoeStrips x = new ZoeStrips();
        due("count(2) at first", x.count(2), 1);
        for (int s = 0; s <= 11; s++) {
            due("drum", x.drum(12, 0, s), 0);
            due("count(2)", x.count(2), s);
            due("at(1)", x.at(1), s);
            due("steps", x.steps((s + 11) % 12), s);
            due("count(2)", x.count(2), (s + 11) % 12);
        }
        bad(x, "steps", -1);
        bad(x, "steps", 12);
        bad(x, "drum", 2, 0, -1);
        bad(x, "drum", 2, 0, 12);
    }

    private static void frameAtHand() {
        ZoeStrips x = new ZoeStrips();
        due("count(3) at first", x.count(3), 0);
        x.drum(12, 0, 5);
        x.spins(1);
        due("count(3)", x.count(3), 5);
        x.drum(12, 0, 5);
        due("count(3) behind drum", x.count(3), 0);
        x.spins(1);
        read(x, "drum 12 0 5;");
        due("count(3) behind read", x.count(3), 0);
    }

    private static void eyesAsTheyCome() {
        ZoeStrips x = new ZoeStrips();
        due("count(5) at first", x.count(5), 0);
        int[] kinds = {3, 5, 0, 4, 1};
        for (int e = 0; e < 5; e++) {
            bad(x, "of", e, 0);
            due("eye", x.eye(kinds[e]), e);
            due("count(5)", x.count(5), e + 1);
        }
        for (int e = 0; e < 5; e++) due("of", x.of(e, 0), kinds[e]);
        full(x, "eye", 2);
        bad(x, "of", 5, 0);
        bad(x, "of", -1, 0);
        due("drum", x.drum(2, 0, 1), 5);
        due("they come from 0 on again", x.eye(2), 0);
    }

    private static void keepsAtFirst() {
        ZoeStrips x = drum(0, 0, 9, 9);
        for (int kind = 0; kind <= 4; kind++) {
            x.spins(1);
            due("eye", x.eye(kind), kind);
            due("a new eye keeps", x.of(kind, 1), 0);
        }
        x.spins(60);
        keeps(x, 9, 8, 9, 8, 9);
        x.draws(0, 0);
        x.spins(60);
        keeps(x, 0, 0, 0, 8, 0);
    }

    private static void movesAtFirst() {
        ZoeStrips x = drum(0, 1, 0, 9);
        x.eye(0);
        x.spins(3);
        x.eye(0);
        moves(x, 3, 0);
        x.drum(2, 0, 1);
        x.eye(0);
        moves(x, 0);
    }

    private static void flashes() {
        ZoeStrips x = drum(0, 1, 0, 0, 0, 0, 0, 0, 0);
        due("count(4) at first", x.count(4), 0);
        for (int i = 1; i <= 166; i++) x.spins(60);
        due("count(4)", x.count(4), 9960);
        due("spins(38)", x.spins(38), 9998 % 7);
        due("count(4)", x.count(4), 9998);
        due("spins(60) turns once", x.spins(60), 9999 % 7);
        due("count(4)", x.count(4), 9999);
        due("spins(1) turns no more", x.spins(1), 9999 % 7);
        due("count(4)", x.count(4), 9999);
        due("undo() behind the last flash", x.undo(), 9998);
        due("count(3)", x.count(3), 9998 % 7);
    }

    /** How many frames pass, by the document's words, each kind by the one that it stands under. */
    private static int passed(int kind, int s, int k) {
        int steady = s;
        int twice = steady + steady;
        int jerk = k % 2 == 1 ? steady + 1 : steady;
        int gas = k % 4 == 0 ? twice + 1 : twice;
        int candle = k % 5 == 4 ? 0 : jerk;
        int sun = steady < 1 ? 1 : steady;
        return new int[] {steady, twice, jerk, gas, candle, sun}[kind];
    }

    private static void everyLamp() {
        for (int s = 0; s <= 11; s++) {
            for (int k = 0; k <= 99; k++) {
                ZoeStrips x = new ZoeStrips();
                for (int x0 = 0; x0 <= 30; x0++) {
                    int bits = 0;
                    for (int kind = 0; kind <= 5; kind++) if (passed(kind, s, k) == x0) bits |= 1 << kind;
                    x.mark(s, k, x0);
                    due("kinds() of " + told("mark", s, k, x0), x.kinds(), bits);
                    x.forget(2);
                }
            }
        }
    }

    /** Real flashes, and those foreseen, of a drum of 12: how many frames pass, flash by flash from 1 on. */
    private static void passes(int kind, int s, int... want) {
        ZoeStrips x = new ZoeStrips();
        x.drum(12, kind, s);
        int frame = 0;
        for (int i = 0; i < want.length; i++) {
            frame = (frame + want[i]) % 12;
            due("at(" + (i + 1) + ") by step " + s, ahead(kind, s, i + 1), frame);
            due("flash " + (i + 1) + " by step " + s, x.spins(1), frame);
        }
    }

    private static int ahead(int kind, int s, int m) {
        ZoeStrips x = new ZoeStrips();
        x.drum(12, kind, s);
        return x.at(m);
    }

    private static void steady() {
        passes(0, 0, 0, 0, 0, 0, 0);
        passes(0, 11, 11, 11, 11, 11, 11);
    }

    private static void twice() {
        passes(1, 0, 0, 0, 0, 0, 0);
        passes(1, 1, 2, 2, 2, 2, 2);
        passes(1, 11, 22, 22, 22, 22, 22);
    }

    private static void jerk() {
        passes(2, 0, 1, 0, 1, 0, 1, 0);
        passes(2, 11, 12, 11, 12, 11, 12, 11);
        ZoeStrips x = new ZoeStrips();
        x.mark(3, 0, 3);
        due("0 is no odd number", x.kinds() >> 2 & 1, 1);
    }

    private static void gas() {
        passes(3, 0, 0, 0, 0, 1, 0, 0, 0, 1);
        passes(3, 11, 22, 22, 22, 23, 22, 22, 22, 23);
        ZoeStrips x = new ZoeStrips();
        x.mark(3, 0, 7);
        due("4 divides 0", x.kinds(), 8);
    }

    private static void candle() {
        passes(4, 0, 1, 0, 1, 0, 1, 0, 1, 0, 0, 0, 1);
        passes(4, 11, 12, 11, 12, 0, 12, 11, 12, 11, 0, 11, 12, 11, 12, 0);
        ZoeStrips x = new ZoeStrips();
        x.mark(3, 0, 3);
        due("0 by 5 leaves 0 over", x.kinds() >> 4 & 1, 1);
    }

    private static void sun() {
        passes(5, 0, 1, 1, 1, 1, 1);
        passes(5, 1, 1, 1, 1, 1, 1);
        passes(5, 2, 2, 2, 2, 2, 2);
        passes(5, 11, 11, 11, 11, 11, 11);
    }

    /** What an eye sees, by the document's words, each kind by the one that it stands under. */
    private static int sight(int kind, int p, int q) {
        int plain = p;
        int lazy = (plain + q) / 2;
        int sharp = plain == q + 1 || plain == q - 1 ? q : plain;
        int old = p == 0 ? q : lazy;
        int child = sharp > q ? (sharp == 9 ? 9 : sharp + 1) : sharp;
        int cat = plain == q ? 0 : plain;
        return new int[] {plain, lazy, sharp, old, child, cat}[kind];
    }

    private static void everyEye() {
        for (int p = 0; p <= 9; p++) {
            for (int q = 0; q <= 9; q++) {
                ZoeStrips x = new ZoeStrips();
                x.eye(0);
                for (int saw = 0; saw <= 9; saw++) {
                    int bits = 0;
                    for (int kind = 0; kind <= 5; kind++) if (sight(kind, p, q) == saw) bits |= 1 << kind;
                    x.note(0, p, q, saw);
                    due("is(0) of " + told("note", 0, p, q, saw), x.is(0), bits);
                    x.forget(1);
                }
            }
        }
    }

    /** A drum that stands, drawn anew ahead of each flash: what a new eye of a kind keeps behind each. */
    private static void watches(int kind, int[] drawings, int... want) {
        ZoeStrips x = drum(0, 0, 0, 0);
        x.eye(kind);
        for (int i = 0; i < want.length; i++) {
            if (x.drawn(0) != drawings[i]) x.draws(0, drawings[i]);
            due("sees(0, 1) of " + drawings[i], x.sees(0, 1), want[i]);
            x.spins(1);
            due("of(0, 1) behind " + drawings[i], x.of(0, 1), want[i]);
        }
    }

    private static void plain() {
        watches(0, new int[] {0, 1, 9, 9, 8, 0}, 0, 1, 9, 9, 8, 0);
    }

    private static void lazy() {
        watches(1, new int[] {1, 2, 9, 9, 9, 9, 9}, 0, 1, 5, 7, 8, 8, 8);
        watches(1, new int[] {9, 0, 0, 0, 0}, 4, 2, 1, 0, 0);
    }

    private static void sharp() {
        watches(2, new int[] {1, 2, 1, 3, 2, 4, 5, 9, 8, 7, 0, 9}, 0, 2, 2, 2, 2, 4, 4, 9, 9, 7, 0, 9);
    }

    private static void old() {
        watches(3, new int[] {9, 0, 0, 1, 0, 9, 0}, 4, 4, 4, 2, 2, 5, 5);
        watches(3, new int[] {0, 1, 0}, 0, 0, 0);
    }

    private static void child() {
        watches(4, new int[] {1, 2, 3, 4, 2, 1, 0, 8, 9, 0, 9}, 0, 3, 3, 3, 3, 1, 1, 9, 9, 0, 9);
        watches(4, new int[] {7, 7, 9, 8, 9}, 8, 8, 8, 8, 8);
        watches(4, new int[] {5, 5, 3, 4}, 6, 6, 3, 3);
    }

    private static void cat() {
        watches(5, new int[] {0, 9, 9, 9, 8, 8, 8, 0}, 0, 9, 0, 9, 8, 0, 8, 0);
    }

    private static void oneMore() {
        ZoeStrips x = drum(0, 0, 1, 2);
        for (int k = 1; k <= 9; k++) {
            x.spins(1);
            due("count(4)", x.count(4), k);
        }
        x.spins(60);
        due("count(4)", x.count(4), 69);
    }

    private static void byThatNumber() {
        // The first FLASH has the number 1, an odd one; the 4th is the first that 4 divides.
        due("JERK, the first flash", drum(2, 0, new int[12]).spins(1), 1);
        due("GAS, three flashes", drum(3, 0, new int[12]).spins(3), 0);
        due("GAS, four flashes", drum(3, 0, new int[12]).spins(4), 1);
        ZoeStrips x = drum(0, 0, new int[12]);
        x.spins(1);
        x.lamp(2);
        due("a JERK told behind FLASH 1: FLASH 2 is even", x.spins(1), 0);
        due("FLASH 3 is odd", x.spins(1), 1);
    }

    private static void roundAndRound() {
        for (int n = 2; n <= 12; n++) {
            due("22 of " + n, drum(1, 11, new int[n]).spins(1), 22 % n);
            due("11 of " + n, drum(0, 11, new int[n]).spins(1), 11 % n);
            due("660 of " + n, drum(0, 11, new int[n]).spins(60), 660 % n);
            due("at(60) of " + n, drum(0, 11, new int[n]).at(60), 660 % n);
        }
    }

    private static void moveOrNot() {
        ZoeStrips x = drum(0, 0, 0, 0);
        eyes(x, 0, 2, 5);
        x.spins(9);
        moves(x, 0, 0, 0);
        x.draws(0, 1);
        x.spins(1);
        moves(x, 1, 0, 1);
        x.spins(1);
        moves(x, 1, 0, 2);
        due("count(6)", x.count(6), 3);
    }

    private static void keepsWhatItSees() {
        // Not the DRAWING: a CHILD keeps 6 of a 5, and then a 7 is 1 from what it keeps.
        watches(4, new int[] {5, 7, 4}, 6, 6, 4);
        watches(1, new int[] {8, 8, 8, 8}, 4, 6, 7, 7);
    }

    private static void movesEnd() {
        ZoeStrips x = drum(0, 1, 0, 9);
        eyes(x, 0, 5);
        toTheEnd(x);
        moves(x, 9999, 9999);
        due("count(6)", x.count(6), 19998);
        x.spins(60);
        moves(x, 9999, 9999);
        due("of(0, 1)", x.of(0, 1), 9);
    }
}
