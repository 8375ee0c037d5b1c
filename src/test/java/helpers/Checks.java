/** What every test by hand needs: an answer held against the one that is due, drums made ready, refusals. */
abstract class Checks {
    static final int MIN = Integer.MIN_VALUE, MAX = Integer.MAX_VALUE;
    static int wrong = 0;
    /** The promise or the document's own words that are tested just now. */
    static String part = "";

    interface Test {
        void run();
    }

    /** One boundary that the document names, in its own words, with a test of its own. */
    static void sentence(String words, Test test) {
        part = "'" + words + "'";
        test.run();
    }

    static void due(String call, long got, long want) {
        if (got != want) {
            wrong++;
            System.out.println(part + ": " + call + " answered " + got + ", due is " + want);
        }
    }

    static void end(String name) {
        System.out.println(wrong == 0 ? name + ": all answers are as due" : name + ": " + wrong + " wrong");
        if (wrong != 0) System.exit(1);
    }

    /** A drum that is drawn frame by frame. */
    static ZoeStrips drum(int lamp, int step, int... drawings) {
        ZoeStrips x = new ZoeStrips();
        x.drum(drawings.length, lamp, step);
        for (int f = 0; f < drawings.length; f++) if (drawings[f] != 0) x.draws(f, drawings[f]);
        return x;
    }

    static void eyes(ZoeStrips x, int... kinds) {
        for (int kind : kinds) x.eye(kind);
    }

    /** Turns a drum at FLASH 0 to its last FLASH, 9999. */
    static void toTheEnd(ZoeStrips x) {
        for (int i = 0; i < 166; i++) x.spins(60);
        x.spins(39);
    }

    static void type(ZoeStrips x, String text) {
        x.clear();
        for (int i = 0; i < text.length(); i++) x.type(text.charAt(i));
    }

    static int read(ZoeStrips x, String text) {
        type(x, text);
        return x.read();
    }

    static void counts(ZoeStrips x, int... want) {
        for (int i = 0; i < want.length; i++) due("count(" + i + ")", x.count(i), want[i]);
    }

    static void drawings(ZoeStrips x, int... want) {
        for (int f = 0; f < want.length; f++) due("drawn(" + f + ")", x.drawn(f), want[f]);
    }

    static void keeps(ZoeStrips x, int... want) {
        for (int e = 0; e < want.length; e++) due("eye " + e + " keeps", x.of(e, 1), want[e]);
    }

    static void moves(ZoeStrips x, int... want) {
        for (int e = 0; e < want.length; e++) due("moves of eye " + e, x.of(e, 2), want[e]);
    }

    static void statuses(ZoeStrips x, int bad, int no, int full) {
        due("status(0)", x.status(0), bad);
        due("status(1)", x.status(1), no);
        due("status(2)", x.status(2), full);
    }

    static int refusals(ZoeStrips x) {
        return x.status(0) + x.status(1) + x.status(2);
    }

    static void fraction(ZoeStrips x, long above, long below) {
        due("part(0)", x.part(0), above);
        due("part(1)", x.part(1), below);
    }

    static String told(String call, int... a) {
        StringBuilder t = new StringBuilder(call).append('(');
        for (int i = 0; i < a.length; i++) t.append(i == 0 ? "" : ", ").append(a[i]);
        return t.append(')').toString();
    }

    /** One call that is refused: its answer, its reason counted, nothing else changed. */
    static void refused(ZoeStrips x, int reason, long want, String call, int... a) {
        long digest = x.digest();
        int before = x.status(reason);
        int all = refusals(x);
        due(told(call, a), Calls.answer(x, call, a), want);
        due(told(call, a) + " counted", x.status(reason), before + 1);
        due(told(call, a) + " counted once", refusals(x), all + 1);
        due(told(call, a) + " changes nothing", x.digest(), digest);
    }

    static void bad(ZoeStrips x, String call, int... a) {
        refused(x, 0, -2, call, a);
    }

    static void no(ZoeStrips x, String call, int... a) {
        refused(x, 1, -3, call, a);
    }

    static void full(ZoeStrips x, String call, int... a) {
        refused(x, 2, -4, call, a);
    }

    static void bad10(ZoeStrips x, String call, int... a) {
        refused(x, 0, -10, call, a);
    }
}
