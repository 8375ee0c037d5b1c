/** For each promise of the document: ordinary inputs, the edges it names, and wrong inputs. */
public final class PromisesTest extends Checks {
    public static void main(String[] args) {
        promise1();
        promise2();
        promise3();
        promise4();
        promise5And6();
        promise7Answers();
        promise7State();
        promise8Lamps();
        promise8Eyes();
        promise8End();
        promise9();
        promise10();
        promise11();
        promise12And13();
        promise14And15();
        promise16();
        promise17();
        promise18();
        promise19();
        promise20();
        promise21And22();
        promise23And26And27();
        promise24And28And29();
        promise25();
        promise30();
        promise31And33();
        promise32();
        promise34And35();
        promise36();
        promise37();
        promise38();
        end("PromisesTest");
    }

    private static void promise1() {
        part = "promise 1";
        ZoeStrips x = new ZoeStrips();
        counts(x, 2, 0, 1, 0, 0, 0, 0, 0, 0, 0, 0, 0);
        due("drawn(0)", x.drawn(0), 0);
        due("drawn(1)", x.drawn(1), 0);
        bad(x, "drawn", 2);
        bad(x, "of", 0, 0);
        fraction(x, 0, 1);
        no(x, "undo");
        no(x, "from", 0);
        no(x, "from", 1);
        statuses(new ZoeStrips(), 0, 0, 0);
        due("NONE", ZoeStrips.NONE, -1);
        due("BAD", ZoeStrips.BAD, -2);
        due("NO", ZoeStrips.NO, -3);
        due("FULL", ZoeStrips.FULL, -4);
    }

    private static void promise2() {
        part = "promise 2";
        ZoeStrips x = drum(2, 3, 1, 2, 3);
        eyes(x, 0, 1, 4);
        x.spins(2);
        x.seen(1, 1);
        x.note(0, 1, 1, 1);
        x.mark(1, 1, 1);
        x.type('a');
        x.image(1);
        x.smear(0, 1, 0, 0);
        long above = x.part(0);
        int bads = x.status(0), noes = x.status(1);
        due("drum(12, 5, 11)", x.drum(12, 5, 11), 3);
        counts(x, 12, 5, 11, 0, 0, 0, 0, 0, 0, 0, 0, 1);
        for (int f = 0; f < 12; f++) due("drawn", x.drawn(f), 0);
        fraction(x, above, 1);
        statuses(x, bads, noes, 0);
        due("drum(2, 0, 0)", x.drum(2, 0, 0), 0);
        x.eye(4);
        due("a new eye keeps", x.of(0, 1), 0);
        due("a new eye's moves", x.of(0, 2), 0);
        due("from(1)", x.from(1), 1);
        counts(x, 3, 2, 3);
        for (int n : new int[] {MIN, -1, 0, 1, 13, MAX}) bad(x, "drum", n, 0, 0);
        for (int lamp : new int[] {MIN, -1, 6, MAX}) bad(x, "drum", 2, lamp, 0);
        for (int step : new int[] {MIN, -1, 12, MAX}) bad(x, "drum", 2, 0, step);
    }

    private static void promise3() {
        part = "promise 3";
        ZoeStrips x = drum(0, 2, 1, 2, 3);
        due("lamp(5)", x.lamp(5), 0);
        due("lamp(1)", x.lamp(1), 5);
        due("count(1)", x.count(1), 1);
        no(x, "undo");
        x.spins(1);
        due("lamp(1)", x.lamp(1), 1);
        due("behind a lamp told none may be undone", x.count(10), 0);
        due("the flash stays", x.count(4), 1);
        for (int kind : new int[] {MIN, -1, 6, MAX}) bad(x, "lamp", kind);
        x.spins(1);
        bad(x, "lamp", 6);
        due("a refused lamp leaves what may be undone", x.count(10), 1);
    }

    private static void promise4() {
        part = "promise 4";
        ZoeStrips x = drum(0, 1, 1, 2, 3);
        due("count(10)", x.count(10), 3);
        for (int kind = 5; kind >= 1; kind--) due("eye", x.eye(kind), 5 - kind);
        due("count(5)", x.count(5), 5);
        due("count(10)", x.count(10), 0);
        for (int e = 0; e < 5; e++) due("of", x.of(e, 0), 5 - e);
        x.spins(1);
        full(x, "eye", 0);
        due("a refused eye leaves what may be undone", x.count(10), 1);
        for (int kind : new int[] {MIN, -1, 6, MAX}) bad(x, "eye", kind);
    }

    private static void promise5And6() {
        part = "promises 5, 6";
        ZoeStrips x = new ZoeStrips();
        due("clear()", x.clear(), 0);
        for (int c : new int[] {MIN, -1, 128, MAX}) bad(x, "type", c);
        for (int i = 1; i <= 150; i++) due("type", x.type(i % 128), i);
        due("count(11)", x.count(11), 150);
        full(x, "type", 0);
        bad(x, "type", 128);
        due("clear()", x.clear(), 150);
        due("clear()", x.clear(), 0);
        due("type(127)", x.type(127), 1);
        due("type(0)", x.type(0), 2);
    }

    private static void reads(String text, int want) {
        ZoeStrips x = drum(3, 4, 5, 6, 7);
        eyes(x, 1, 2);
        x.spins(3);
        x.clear();
        for (int i = 0; i < text.length(); i++) x.type(text.charAt(i));
        long before = x.digest();
        due("read() of '" + text + "'", x.read(), want);
        due("read() refuses nothing", x.status(0) + x.status(1) + x.status(2), 0);
        if (want < 0) due("all stays behind '" + text + "'", x.digest(), before);
        due("the text stays", x.count(11), text.length());
    }

    private static void promise7Answers() {
        part = "promise 7";
        String d = "drum 2 0 0;";
        reads("", -10);
        reads(" ", -11);
        reads("   ", -13);
        reads(d, 1);
        reads(" drum  2 0 0 ; ", 1);
        reads("drum2 0 0;eye5;", 2);
        reads("drum 02 00 01;", 1);
        reads("drum 12 5 11;", 1);
        reads("drum 13 0 0;", -15);
        reads("drum 1 0 0;", -15);
        reads("drum 2 6 0;", -17);
        reads("drum 2 0 12;", -19);
        reads("drum 2 0;", -18);
        reads("drum 2;", -16);
        reads("drum;", -14);
        reads("drum 2 0 0 0;", -21);
        reads("drum 2 0 0", -20);
        reads("drum 2 0 ", -19);
        reads("drum", -14);
        reads("dru", -10);
        reads("crum 2 0 0;", -10);
        reads("drums 2 0 0;", -10);
        reads("drum two 0 0;", -15);
        reads("drum 002 0 0;", -15);
        reads("drum 200 0 0;", -15);
        reads("drum\t2 0 0;", -14);
        reads("eye 0;" + d, -10);
        reads(";" + d, -10);
        reads("2 " + d, -10);
        reads("999 " + d, -10);
        reads("?" + d, -10);
        reads("Drum 2 0 0;", -10);
        reads("  x" + d, -12);
        reads(d + d, -21);
        reads(d + "drum", -21);
        reads(d + ";", -21);
        reads(d + "7;", -21);
        reads(d + "777", -21);
        reads(d + "drawn 1;", -21);
        reads(d + "drawz 1;", -21);
        reads(d + "drawa 1;", -21);
        reads(d + "bye 1;", -21);
        reads(d + "Draw 1;", -21);
        reads(d + "draw 1;", 2);
        reads(d + "draw 0 9;", 2);
        reads(d + "draw 1 2 3;", -30);
        reads(d + "draw 1 2 333;", -30);
        reads(d + "draw 1 2", -29);
        reads(d + "draw 1 2  ", -31);
        reads(d + "draw;", -25);
        reads(d + "draw 10;", -26);
        reads(d + "draw 100;", -26);
        reads(d + "draw 1,2;", -27);
        reads(d + "draw 1 x;", -28);
        reads(d + "draw 1 draw;", -28);
        reads("drum 12 0 0;draw 0 1 2 3 4 5 6 7 8 9 8 7;", 2);
        reads("drum 12 0 0;draw 0 1 2 3 4 5 6 7 8 9 8 7 6;", -51);
        String five = d + "eye 0;eye 1;eye 2;eye 3;eye 4;";
        reads(five, 6);
        reads(five + "eye 5;", -51);
        reads(five + "eye", -51);
        reads(five + "step 1;turn 1;draw 1;", 9);
        reads(d + "eye 5;", 2);
        reads(d + "eye 6;", -25);
        reads(d + "eye;", -24);
        reads(d + "eye eye 1;", -25);
        reads(d + "eye 1 1;", -27);
        reads(d + "step 0;step 11;", 3);
        reads(d + "step 12;", -26);
        reads(d + "step", -25);
        reads(d + "turn 1;turn 99;", 3);
        reads(d + "turn 0;", -26);
        reads(d + "turn 00;", -26);
        reads(d + "turn 100;", -26);
        reads(d + "turn 9\0;", -27);
    }

    private static void promise7State() {
        ZoeStrips x = drum(3, 4, 5, 6, 7);
        eyes(x, 1, 2);
        x.seen(1, 1);
        x.note(0, 1, 1, 1);
        x.mark(1, 1, 1);
        x.smear(0, 0, 0, 0);
        x.image(0);
        x.spins(1);
        due("read()", read(x, "drum 3 0 1;draw 1 2 3;eye 0;turn 1;step 2;turn 1;draw 9;"), 7);
        counts(x, 3, 0, 2, 0, 2, 1, 2, 0, 0, 0, 0, 56);
        due("drawn(0)", x.drawn(0), 9);
        due("drawn(1)", x.drawn(1), 2);
        due("drawn(2)", x.drawn(2), 3);
        due("of(0, 0)", x.of(0, 0), 0);
        due("of(0, 1)", x.of(0, 1), 1);
        fraction(x, 1, 1);
        due("from(0)", x.from(0), 1);
        due("count(5)", x.count(5), 2);
        due("count(11)", x.count(11), 56);
        due("read() again", x.read(), 7);
        due("count(4)", x.count(4), 2);
        due("a full text", read(x, "drum 2 0 1;" + "turn 99;".repeat(17) + "   "), 18);
        due("count(4)", x.count(4), 17 * 99);
    }

    private static void spun(int lamp, int n, int step, int... frames) {
        ZoeStrips x = new ZoeStrips();
        x.drum(n, lamp, step);
        for (int i = 0; i < frames.length; i++) {
            due("lamp " + lamp + " at(" + (i + 1) + ")", x.at(i + 1), frames[i]);
        }
        for (int i = 0; i < frames.length; i++) {
            due("lamp " + lamp + " flash " + (i + 1), x.spins(1), frames[i]);
            due("count(4)", x.count(4), i + 1);
            due("count(3)", x.count(3), frames[i]);
        }
    }

    private static void promise8Lamps() {
        part = "promise 8, lamps";
        spun(0, 5, 2, 2, 4, 1, 3, 0);
        spun(0, 2, 11, 1, 0, 1);
        spun(0, 3, 0, 0, 0);
        spun(1, 12, 5, 10, 8, 6);
        spun(2, 5, 1, 2, 3, 0, 1, 3);
        spun(3, 7, 1, 2, 4, 6, 2, 4);
        spun(3, 7, 0, 0, 0, 0, 1, 1, 1, 1, 2);
        spun(4, 12, 1, 2, 3, 5, 5, 7, 8, 10, 11, 11, 0);
        spun(5, 3, 0, 1, 2, 0);
        spun(5, 3, 2, 2, 1, 0);
        ZoeStrips x = new ZoeStrips();
        for (int n : new int[] {MIN, -1, 0, 61, MAX}) bad(x, "spins", n);
        x.drum(7, 0, 1);
        due("spins(60)", x.spins(60), 4);
        due("one that may be undone", x.count(10), 1);
    }

    private static void promise8Eyes() {
        part = "promise 8, eyes";
        ZoeStrips x = drum(0, 0, 9, 9);
        eyes(x, 0, 1, 2, 3, 4);
        x.spins(1);
        keeps(x, 9, 4, 9, 4, 9);
        x.draws(0, 0);
        x.spins(1);
        keeps(x, 0, 2, 0, 4, 0);
        x.draws(0, 1);
        x.spins(1);
        keeps(x, 1, 1, 0, 2, 0);
        x.draws(0, 5);
        x.spins(1);
        keeps(x, 5, 3, 5, 3, 6);
        for (int e = 0; e < 5; e++) due("moves of " + e, x.of(e, 2), e < 2 ? 4 : 3);
        due("count(6)", x.count(6), 17);
        ZoeStrips cat = drum(0, 0, 7, 7);
        eyes(cat, 5);
        cat.spins(1);
        keeps(cat, 7);
        cat.spins(1);
        keeps(cat, 0);
        cat.spins(1);
        keeps(cat, 7);
        due("the cat's moves", cat.of(0, 2), 3);
    }

    private static void promise8End() {
        part = "promise 8, 9999";
        ZoeStrips x = drum(3, 0, 0, 9);
        eyes(x, 0, 5);
        x.steps(1);
        for (int i = 0; i < 166; i++) x.spins(60);
        due("count(4)", x.count(4), 9960);
        int frame = x.spins(60);
        due("count(4)", x.count(4), 9999);
        due("moves end with the flashes", Math.max(x.of(0, 2), x.of(1, 2)) <= 9999 ? 1 : 0, 1);
        due("spins(1) at 9999", x.spins(1), frame);
        due("count(4)", x.count(4), 9999);
        // The document's "at 9999 none": no FLASH comes then, so there is none to undo either.
        due("undo() is behind 9960", x.undo(), 9960);
        x.spins(39);
        // FLASH 10000 is one that 4 divides: 3 FRAMES pass by GAS.
        due("at(1) goes beyond 9999", x.at(1), (frame + 3) % 2);
        due("at(2)", x.at(2), (frame + 5) % 2);
        due("count(4)", x.count(4), 9999);
        due("most goes on, too", x.most(0, 60, 1) > 0 ? 1 : 0, 1);
    }

    private static void promise9() {
        part = "promise 9";
        ZoeStrips x = new ZoeStrips();
        due("steps(11)", x.steps(11), 1);
        due("steps(0)", x.steps(0), 11);
        due("count(2)", x.count(2), 0);
        due("count(10)", x.count(10), 2);
        no(x, "steps", 0);
        for (int s : new int[] {MIN, -1, 12, MAX}) bad(x, "steps", s);
    }

    private static void promise10() {
        part = "promise 10";
        ZoeStrips x = new ZoeStrips();
        x.drum(3, 0, 1);
        due("draws(2, 9)", x.draws(2, 9), 0);
        due("draws(2, 4)", x.draws(2, 4), 9);
        due("drawn(2)", x.drawn(2), 4);
        due("count(10)", x.count(10), 2);
        no(x, "draws", 2, 4);
        no(x, "draws", 0, 0);
        for (int f : new int[] {MIN, -1, 3, 11, MAX}) bad(x, "draws", f, 0);
        for (int p : new int[] {MIN, -1, 10, MAX}) bad(x, "draws", 0, p);
    }

    private static void promise11() {
        part = "promise 11";
        ZoeStrips x = drum(0, 1, 1, 2, 3);
        eyes(x, 0);
        x.seen(1, 1);
        x.spins(2);
        x.steps(5);
        x.draws(1, 9);
        x.spins(4);
        counts(x, 3, 0, 5, 1, 6, 1);
        due("undo() of flashes", x.undo(), 2);
        counts(x, 3, 0, 5, 2, 2, 1, 2);
        due("undo() of a drawing", x.undo(), 2);
        due("drawn(1)", x.drawn(1), 2);
        due("undo() of a step", x.undo(), 2);
        due("count(2)", x.count(2), 1);
        due("undo() of flashes", x.undo(), 0);
        keeps(x, 0);
        counts(x, 3, 0, 1, 0, 0, 1, 0, 1);
        no(x, "undo");
        for (int i = 1; i <= 9; i++) x.spins(i);
        due("8 at most", x.count(10), 8);
        for (int flash : new int[] {36, 28, 21, 15, 10, 6, 3, 1}) due("undo()", x.undo(), flash);
        no(x, "undo");
        due("count(4)", x.count(4), 1);
    }

    private static void promise12And13() {
        part = "promises 12, 13";
        ZoeStrips x = drum(0, 1, 3, 8);
        eyes(x, 4, 3);
        x.spins(1);
        due("of(0, 0)", x.of(0, 0), 4);
        due("of(0, 1)", x.of(0, 1), 9);
        due("of(0, 2)", x.of(0, 2), 1);
        due("of(1, 0)", x.of(1, 0), 3);
        due("of(1, 1)", x.of(1, 1), 4);
        for (int e : new int[] {MIN, -1, 2, 4, 5, MAX}) bad(x, "of", e, 0);
        for (int what : new int[] {MIN, -1, 3, MAX}) bad(x, "of", 0, what);
        due("drawn(1)", x.drawn(1), 8);
        for (int f : new int[] {MIN, -1, 2, 11, 12, MAX}) bad(x, "drawn", f);
    }

    private static void promise14And15() {
        part = "promises 14, 15";
        ZoeStrips x = drum(2, 1, 0, 3, 6, 9, 1);
        eyes(x, 1, 0);
        x.spins(1);
        long before = x.digest();
        due("at(0)", x.at(0), 2);
        due("at(1)", x.at(1), 3);
        due("at(2)", x.at(2), 0);
        due("at(60)", x.at(60), 2);
        due("sees(0, 0)", x.sees(0, 0), 3);
        due("sees(0, 1)", x.sees(0, 1), 6);
        due("sees(0, 2)", x.sees(0, 2), 3);
        due("sees(1, 0)", x.sees(1, 0), 6);
        due("sees(1, 60)", x.sees(1, 60), 6);
        due("nothing is changed", x.digest(), before);
        for (int m : new int[] {MIN, -1, 61, MAX}) bad(x, "at", m);
        for (int m : new int[] {MIN, -1, 61, MAX}) bad(x, "sees", 0, m);
        for (int e : new int[] {MIN, -1, 2, MAX}) bad(x, "sees", e, 0);
    }

    private static void promise16() {
        part = "promise 16";
        ZoeStrips x = drum(0, 2, 3, 0, 1, 4, 5);
        due("round() without eyes", x.round(), 5);
        x.eye(0);
        due("round()", x.round(), -1);
        due("none is not refused", refusals(x), 0);
        x.spins(5);
        due("round()", x.round(), 5);
        x.steps(0);
        due("round() by 0", x.round(), 1);
        x.eye(5);
        due("round(): the cat blinks", x.round(), 2);
        // CANDLE by 0: one FRAME passes ahead of each odd FLASH that does not end on 9, the 12th ahead of 27.
        due("round()", drum(4, 0, new int[12]).round(), 27);
    }

    private static void promise17() {
        part = "promise 17";
        ZoeStrips x = drum(0, 1, 0, 1, 0, 1);
        due("still(1)", x.still(1), 1365);
        due("still(60)", x.still(60), 1365);
        x.lamp(1);
        due("still(1) by TWICE", x.still(1), 4095);
        x.lamp(5);
        due("still(1) by SUN", x.still(1), 1364);
        x.lamp(2);
        due("still(1) by JERK", x.still(1), 2730);
        due("still(2) by JERK", x.still(2), 0);
        for (int m : new int[] {MIN, -1, 0, 61, MAX}) bad(x, "still", m);
    }

    private static void promise18() {
        part = "promise 18";
        ZoeStrips x = drum(0, 0, 0, 1, 2);
        eyes(x, 0, 2);
        due("most(0, 5, 0)", x.most(0, 5, 0), 1);
        due("most(0, 5, 1)", x.most(0, 5, 1), 5);
        // SHARP, keeping 0, sees no move to 1: STEP 2 is the first to show it one.
        due("most(1, 1, 0)", x.most(1, 1, 0), 2);
        due("most(1, 1, 1)", x.most(1, 1, 1), 1);
        due("most(0, 60, 1)", x.most(0, 60, 1), 60);
        ZoeStrips flat = drum(0, 5, 0, 0);
        eyes(flat, 0);
        due("of like ones the least", flat.most(0, 60, 0), 0);
        due("none more", flat.most(0, 60, 1), 0);
        for (int e : new int[] {MIN, -1, 2, MAX}) bad(x, "most", e, 1, 0);
        for (int m : new int[] {MIN, -1, 0, 61, MAX}) bad(x, "most", 0, m, 0);
        for (int what : new int[] {MIN, -1, 2, MAX}) bad(x, "most", 0, 1, what);
    }

    private static void smooths(int[] drawings, int fewest, int... strip) {
        ZoeStrips x = drum(0, 1, drawings);
        due("smooth(NONE)", x.smooth(-1), fewest);
        for (int f = 0; f < strip.length; f++) due("smooth(" + f + ")", x.smooth(f), strip[f]);
        due("the drawings stay", x.drawn(0), drawings[0]);
    }

    private static void promise19() {
        part = "promise 19";
        smooths(new int[] {0, 0}, 0, 0, 0);
        smooths(new int[] {3, 5}, 1, 3, 2);
        smooths(new int[] {3, 4}, 0, 3, 4);
        smooths(new int[] {9, 0}, 1, 0, 0);
        smooths(new int[] {0, 5, 9}, 2, 0, 0, 0);
        smooths(new int[] {5, 5, 9}, 1, 5, 5, 4);
        smooths(new int[] {9, 9, 9, 9, 0, 9}, 1, 9, 9, 9, 9, 8, 9);
        smooths(new int[] {0, 1, 2, 3, 4, 5, 6, 5, 4, 3, 2, 1}, 0, 0, 1, 2, 3, 4, 5, 6, 5, 4, 3, 2, 1);
        ZoeStrips x = drum(0, 1, 0, 5, 9);
        for (int f : new int[] {MIN, -2, 3, 11, MAX}) bad10(x, "smooth", f);
    }

    private static void promise20() {
        part = "promise 20";
        ZoeStrips x = new ZoeStrips();
        due("seen(1, 0)", x.seen(1, 0), 1);
        due("seen(30, 9)", x.seen(30, 9), 2);
        for (int i = 3; i <= 6; i++) due("seen(1, 0)", x.seen(1, 0), i);
        full(x, "seen", 1, 0);
        for (int k : new int[] {MIN, -1, 0, 31, MAX}) bad(x, "seen", k, 0);
        for (int p : new int[] {MIN, -1, 10, MAX}) bad(x, "seen", 1, p);
    }

    private static void promise21And22() {
        part = "promises 21, 22";
        ZoeStrips x = drum(0, 1, 0, 1, 2);
        due("began(NONE)", x.began(-1), 36);
        due("began(35)", x.began(35), 35);
        x.spins(2);
        x.seen(1, 2);
        due("began(NONE)", x.began(-1), 12);
        for (int[] want : new int[][] {{0, 2}, {1, 5}, {3, 11}, {4, 13}, {8, 24}, {11, 33}}) {
            due("began(" + want[0] + ")", x.began(want[0]), want[1]);
        }
        due("tell()", x.tell(), 2);
        x.seen(2, 0);
        due("began(NONE)", x.began(-1), 4);
        due("began(0)", x.began(0), 13);
        due("began(3)", x.began(3), 22);
        int refusedBefore = x.status(0) + x.status(1) + x.status(2);
        due("began(4)", x.began(4), -5);
        due("began(MAX)", x.began(MAX), -5);
        due("tell(): all are alike", x.tell(), 1);
        x.lamp(1);
        // TWICE: FRAME and twice STEP leave 2, FRAME and 4 times STEP leave 0 by 3: STEPS 2, 5, 8, 11, FRAME 1.
        due("began(0) by TWICE", x.began(0), 14);
        x.seen(2, 1);
        due("began(NONE)", x.began(-1), 0);
        due("began(0)", x.began(0), -5);
        due("tell()", x.tell(), -1);
        due("these are not refused", x.status(0) + x.status(1) + x.status(2), refusedBefore);
        for (int j : new int[] {MIN, -11, -2}) bad10(x, "began", j);
        ZoeStrips late = drum(4, 0, 2, 0, 2, 8, 2);
        late.seen(26, 2);
        late.seen(17, 2);
        due("tell() at its end", late.tell(), 30);
    }

    private static void promise23And26And27() {
        part = "promises 23, 26, 27";
        ZoeStrips x = drum(0, 1, 0, 1);
        eyes(x, 0, 1);
        due("is(0)", x.is(0), 63);
        due("look(0)", x.look(0), 1);
        due("note(0, 9, 8, 8)", x.note(0, 9, 8, 8), 1);
        due("is(0)", x.is(0), 30);
        due("is(1) has no notes", x.is(1), 63);
        // LAZY 1, SHARP 0, OLD 2, CHILD 0: of a drawing 0, keeping 2, two are alike, and by 01 three.
        due("look(0)", x.look(0), 2);
        due("note(1, 4, 0, 5)", x.note(1, 4, 0, 5), 2);
        due("is(1): CHILD", x.is(1), 16);
        due("look(1)", x.look(1), 0);
        due("note(1, 4, 0, 4)", x.note(1, 4, 0, 4), 3);
        due("is(1)", x.is(1), 0);
        due("look(1)", x.look(1), -1);
        due("note(0, 0, 5, 5)", x.note(0, 0, 5, 5), 4);
        due("is(0): OLD", x.is(0), 8);
        due("note(1, 0, 0, 0)", x.note(1, 0, 0, 0), 5);
        due("note(0, 9, 9, 9)", x.note(0, 9, 9, 9), 6);
        full(x, "note", 0, 0, 0, 0);
        bad(x, "note", 2, 0, 0, 0);
        for (int e : new int[] {MIN, -1, 2, MAX}) {
            bad(x, "note", e, 0, 0, 0);
            bad(x, "is", e);
            bad(x, "look", e);
        }
        for (int v : new int[] {MIN, -1, 10, MAX}) {
            bad(x, "note", 0, v, 0, 0);
            bad(x, "note", 0, 0, v, 0);
            bad(x, "note", 0, 0, 0, v);
        }
    }

    private static void promise24And28And29() {
        part = "promises 24, 28, 29";
        ZoeStrips x = new ZoeStrips();
        due("kinds()", x.kinds(), 63);
        // By STEP 2 ahead of FLASH 1: 2, 4, 3, 4, 3, 2.
        due("ask()", x.ask(), 201);
        due("mark(3, 1, 4)", x.mark(3, 1, 4), 1);
        due("kinds(): JERK, CANDLE", x.kinds(), 20);
        due("ask()", x.ask(), 9);
        due("mark(11, 99, 0)", x.mark(11, 99, 0), 2);
        due("kinds(): CANDLE", x.kinds(), 16);
        due("ask()", x.ask(), 0);
        due("mark(0, 0, 30)", x.mark(0, 0, 30), 3);
        due("kinds()", x.kinds(), 0);
        due("ask()", x.ask(), -1);
        x.forget(2);
        due("mark(0, 0, 1)", x.mark(0, 0, 1), 1);
        due("kinds(): GAS, SUN", x.kinds(), 40);
        due("ask()", x.ask(), 1);
        for (int i = 2; i <= 6; i++) due("mark", x.mark(0, 0, 1), i);
        full(x, "mark", 0, 0, 1);
        for (int s : new int[] {MIN, -1, 12, MAX}) bad(x, "mark", s, 0, 0);
        for (int k : new int[] {MIN, -1, 100, MAX}) bad(x, "mark", 0, k, 0);
        for (int v : new int[] {MIN, -1, 31, MAX}) bad(x, "mark", 0, 0, v);
    }

    private static void promise25() {
        part = "promise 25";
        ZoeStrips x = new ZoeStrips();
        x.eye(0);
        for (int i = 0; i < 3; i++) x.seen(1, 5);
        for (int i = 0; i < 2; i++) x.note(0, 0, 0, 1);
        x.mark(0, 0, 30);
        due("forget(0)", x.forget(0), 3);
        counts(x, 2, 0, 1, 0, 0, 1, 0, 0, 2, 1);
        due("began(NONE)", x.began(-1), 24);
        due("forget(1)", x.forget(1), 2);
        counts(x, 2, 0, 1, 0, 0, 1, 0, 0, 0, 1);
        due("is(0)", x.is(0), 63);
        due("forget(2)", x.forget(2), 1);
        counts(x, 2, 0, 1, 0, 0, 1, 0, 0, 0, 0);
        due("kinds()", x.kinds(), 63);
        due("forget(0)", x.forget(0), 0);
        for (int what : new int[] {MIN, -1, 3, MAX}) bad(x, "forget", what);
    }

    private static void promise30() {
        part = "promise 30";
        ZoeStrips x = drum(0, 5, 0, 9);
        eyes(x, 0, 0, 1);
        // An odd STEP together moves both 4 times, an even one never; 3 costs 1.
        due("hands(0, 1, NONE)", x.hands(0, 1, -1), 4);
        int[] pairs = {1, 10, 12, 21};
        for (int k = 0; k < 4; k++) due("hands(0, 1, k)", x.hands(0, 1, k), pairs[k]);
        int refusedBefore = x.status(0) + x.status(1) + x.status(2);
        due("hands(0, 1, 4)", x.hands(0, 1, 4), -5);
        due("hands(1, 0, MAX)", x.hands(1, 0, MAX), -5);
        due("-5 is not refused", x.status(0) + x.status(1) + x.status(2), refusedBefore);
        due("the step stays", x.count(2), 5);
        // MOVES by 0 .. 6 together: 0, 0, 2, 2, 0, 0, 4 (FRAME 6 comes every other FLASH, once, or never).
        ZoeStrips far = drum(0, 0, 0, 0, 0, 0, 0, 0, 9, 0, 0, 0, 0, 0);
        eyes(far, 0, 2);
        int[] farPairs = {2, 11, 12, 20, 21, 33};
        due("hands(0, 1, NONE)", far.hands(0, 1, -1), 6);
        for (int k = 0; k < 6; k++) due("hands(0, 1, k)", far.hands(0, 1, k), farPairs[k]);
        for (int e : new int[] {MIN, -1, 3, 5, MAX}) {
            bad10(x, "hands", e, 0, -1);
            bad10(x, "hands", 0, e, -1);
        }
        bad10(x, "hands", 0, 0, -1);
        bad10(x, "hands", 2, 2, 0);
        bad10(x, "hands", 0, 1, -2);
        bad10(x, "hands", 0, 1, MIN);
    }

    private static void smeared(ZoeStrips x, int[] a, long above, long below) {
        due("smear", x.smear(a[0], a[1], a[2], a[3]), 1);
        fraction(x, above, below);
    }

    private static void promise31And33() {
        part = "promises 31, 33";
        ZoeStrips x = drum(0, 1, 0, 9);
        eyes(x, 0, 5);
        smeared(x, new int[] {0, 9, 1, 3}, 7, 10);
        smeared(x, new int[] {0, 0, 1, 3}, 3, 10);
        smeared(x, new int[] {0, 9, 2, 5}, 1, 4);
        smeared(x, new int[] {0, 0, 2, 5}, 3, 4);
        smeared(x, new int[] {0, 9, 1, 10}, 0, 1);
        smeared(x, new int[] {0, 9, 1, 0}, 1, 1);
        smeared(x, new int[] {0, 0, 0, 5}, 1, 1);
        smeared(x, new int[] {0, 1, 0, 5}, 0, 1);
        // Only the 5th FLASH is the last one that was seen and shows 9, or the 3rd, or the 1st.
        smeared(x, new int[] {0, 9, 6, 1}, 9 * 10000 + 9 * 100 + 9, 1000000);
        due("nothing else is changed", x.count(4), 0);
        for (int e : new int[] {MIN, -1, 2, MAX}) bad(x, "smear", e, 0, 0, 0);
        for (int v : new int[] {MIN, -1, 10, MAX}) bad(x, "smear", 0, v, 0, 0);
        for (int n : new int[] {MIN, -1, 7, MAX}) bad(x, "smear", 0, 0, n, 0);
        for (int c : new int[] {MIN, -1, 11, MAX}) bad(x, "smear", 0, 0, 0, c);
        for (int what : new int[] {MIN, -1, 2, MAX}) bad(x, "part", what);
    }

    private static void promise32() {
        part = "promise 32";
        ZoeStrips x = drum(0, 3, 0, 1, 2, 3, 4, 5, 6, 7, 8, 9, 8, 7);
        eyes(x, 0, 1);
        long before = x.digest();
        due("nights(0, 0)", x.nights(0, 0), 0);
        // X is 12345: STEP 0.
        due("nights(0, 1)", x.nights(0, 1), 0);
        // X is 1103527590: STEP 2 (16838 by 12): PLAIN sees 2, LAZY 1.
        due("nights(1, 1)", x.nights(1, 1), 2);
        due("nothing is changed", x.digest(), before);
        due("nights(999999, 60) at the most", x.nights(999999, 60) <= 120 ? 1 : 0, 1);
        for (int seed : new int[] {MIN, -1, 1000000, MAX}) bad(x, "nights", seed, 0);
        for (int n : new int[] {MIN, -1, 61, MAX}) bad(x, "nights", 0, n);
        due("without eyes", new ZoeStrips().nights(1, 60), 0);
    }

    private static void promise34And35() {
        part = "promises 34, 35";
        ZoeStrips x = drum(2, 3, 1, 2, 3, 4);
        eyes(x, 0, 4);
        x.seen(2, 3);
        x.note(1, 2, 3, 4);
        x.mark(5, 6, 7);
        x.spins(3);
        x.draws(1, 8);
        due("image(0)", x.image(0), 1);
        no(x, "from", 1);
        long kept = x.digest();
        x.spins(9);
        x.undo();
        x.undo();
        x.undo();
        x.drum(9, 0, 0);
        due("image(1)", x.image(1), 1);
        x.smear(0, 0, 0, 0);
        due("from(0)", x.from(0), 1);
        due("all is as it was", x.digest(), kept);
        due("undo()", x.undo(), 3);
        due("drawn(1)", x.drawn(1), 2);
        due("undo()", x.undo(), 0);
        no(x, "undo");
        due("from(0) again", x.from(0), 1);
        due("all is as it was", x.digest(), kept);
        due("from(1)", x.from(1), 1);
        counts(x, 9, 0, 0, 0, 0, 0, 0, 0, 0, 0, 0);
        due("image(0) anew", x.image(0), 1);
        x.drum(2, 0, 0);
        due("from(0)", x.from(0), 1);
        due("count(0)", x.count(0), 9);
        x.eye(0);
        x.smear(0, 0, 0, 0);
        x.type('a');
        bad(x, "at", 61);
        int bads = x.status(0);
        due("from(0)", x.from(0), 1);
        fraction(x, 1, 1);
        due("the text stays", x.count(11), 1);
        due("the status stays", x.status(0), bads);
        for (int i : new int[] {MIN, -1, 2, MAX}) {
            bad(x, "image", i);
            bad(x, "from", i);
        }
    }

    private static void promise36() {
        part = "promise 36";
        ZoeStrips x = new ZoeStrips();
        x.at(61);
        x.smooth(9);
        x.began(-2);
        x.hands(0, 0, 0);
        statuses(x, 4, 0, 0);
        x.undo();
        x.steps(1);
        statuses(x, 4, 2, 0);
        for (int i = 0; i < 7; i++) x.eye(0);
        statuses(x, 4, 2, 2);
        x.read();
        x.began(99);
        x.tell();
        x.hands(0, 1, 99);
        statuses(x, 4, 2, 2);
        for (int what : new int[] {MIN, -1, 3, MAX}) refused(x, 0, -1, "status", what);
        statuses(x, 8, 2, 2);
        x.drum(2, 0, 0);
        statuses(x, 8, 2, 2);
    }

    private static void promise37() {
        part = "promise 37";
        ZoeStrips x = drum(3, 4, 1, 2, 3, 4, 5, 6, 7);
        eyes(x, 0, 0, 0);
        x.spins(4);
        x.seen(1, 1);
        x.seen(1, 2);
        x.note(0, 1, 2, 3);
        for (int i = 0; i < 3; i++) x.mark(1, 2, 3);
        for (int i = 0; i < 4; i++) x.type('x');
        x.steps(6);
        // 8, 8, 8 and 9 FRAMES passed of 7: 1, 2, 3, 5.
        counts(x, 7, 3, 6, 5, 4, 3, 12, 2, 1, 3, 2, 4);
        for (int what : new int[] {MIN, -1, 12, MAX}) bad(x, "count", what);
    }

    private static long hash(long... values) {
        long h = 1787;
        for (long v : values) h = 31 * h + v;
        return h;
    }

    private static void promise38() {
        part = "promise 38";
        ZoeStrips x = new ZoeStrips();
        due("digest()", x.digest(), hash(2, 0, 1, 0, 0, 0, 0, 0, 0, 0, 0, 0, 0, 0, 0, 1));
        x = drum(0, 1, 3, 0, 9);
        eyes(x, 0, 1);
        x.spins(2);
        x.seen(5, 6);
        x.seen(7, 8);
        x.note(1, 2, 3, 4);
        x.mark(10, 20, 30);
        x.mark(1, 2, 3);
        x.type(65);
        x.smear(0, 9, 2, 4);
        // The FRAMES to come show 3 and 0, so PLAIN keeps 9 if it sees none of both: 16 of 100.
        due("digest()", x.digest(), hash(3, 0, 1, 2, 2, 2, 2, 2, 1, 2, 1, 1,
                3, 0, 9, 0, 9, 1, 1, 4, 1, 5, 6, 7, 8, 1, 2, 3, 4, 10, 20, 30, 1, 2, 3, 4, 25));
    }
}
