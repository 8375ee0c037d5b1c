/** All that can be learned of an object, by using it up: two that were made alike tell the same. */
final class Whole {
    interface Maker {
        ZoeStrips make();
    }

    private Whole() {
    }

    /** A drum with something in every part of it: eyes, rows, text, fraction, both images, a past of 8. */
    static ZoeStrips rich() {
        ZoeStrips x = new ZoeStrips();
        x.drum(3, 1, 2);
        x.eye(2);
        x.spins(2);
        x.draws(2, 7);
        x.image(1);
        x.drum(5, 2, 3);
        int[] drawings = {1, 4, 0, 9, 6};
        for (int f = 0; f < 5; f++) x.draws(f, (drawings[f] + 2) % 10);
        for (int kind : new int[] {0, 1, 4}) x.eye(kind);
        x.seen(1, 4);
        x.seen(30, 9);
        x.note(1, 9, 0, 4);
        x.mark(3, 1, 4);
        x.spins(3);
        x.image(0);
        for (int f = 0; f < 5; f++) x.draws(f, drawings[f]);
        x.steps(1);
        x.spins(2);
        x.steps(3);
        x.smear(0, 4, 3, 3);
        for (char c : "drum 2 0 1;eye 3;".toCharArray()) x.type(c);
        return x;
    }

    /** Everything but STATUS. */
    static String told(ZoeStrips x) {
        StringBuilder t = new StringBuilder();
        past(x, t);
        for (int i = 0; i <= 1; i++) {
            t.append(" from ").append(x.from(i));
            past(x, t);
        }
        t.append(" read ").append(x.read());
        past(x, t);
        for (int i = 0; i <= 1; i++) {
            t.append(" from ").append(x.from(i)).append(' ').append(x.digest());
        }
        return t.toString();
    }

    private static void past(ZoeStrips x, StringBuilder t) {
        t.append(' ').append(x.digest());
        for (int i = x.count(10); i > 0; i--) t.append(" undo ").append(x.undo()).append(' ').append(x.digest());
    }
}
