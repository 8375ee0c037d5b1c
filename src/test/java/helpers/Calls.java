/** A call of ZoeStrips by its name. */
final class Calls {
    private Calls() {
    }

    static long answer(ZoeStrips x, String name, int... a) {
        switch (name) {
            case "drum": return x.drum(a[0], a[1], a[2]);
            case "lamp": return x.lamp(a[0]);
            case "eye": return x.eye(a[0]);
            case "type": return x.type(a[0]);
            case "clear": return x.clear();
            case "read": return x.read();
            case "spins": return x.spins(a[0]);
            case "steps": return x.steps(a[0]);
            case "draws": return x.draws(a[0], a[1]);
            case "undo": return x.undo();
            case "of": return x.of(a[0], a[1]);
            case "drawn": return x.drawn(a[0]);
            case "at": return x.at(a[0]);
            case "sees": return x.sees(a[0], a[1]);
            case "round": return x.round();
            case "still": return x.still(a[0]);
            case "most": return x.most(a[0], a[1], a[2]);
            case "smooth": return x.smooth(a[0]);
            case "seen": return x.seen(a[0], a[1]);
            case "began": return x.began(a[0]);
            case "tell": return x.tell();
            case "note": return x.note(a[0], a[1], a[2], a[3]);
            case "mark": return x.mark(a[0], a[1], a[2]);
            case "forget": return x.forget(a[0]);
            case "is": return x.is(a[0]);
            case "look": return x.look(a[0]);
            case "kinds": return x.kinds();
            case "ask": return x.ask();
            case "hands": return x.hands(a[0], a[1], a[2]);
            case "smear": return x.smear(a[0], a[1], a[2], a[3]);
            case "nights": return x.nights(a[0], a[1]);
            case "part": return x.part(a[0]);
            case "image": return x.image(a[0]);
            case "from": return x.from(a[0]);
            case "status": return x.status(a[0]);
            case "count": return x.count(a[0]);
            case "digest": return x.digest();
            default: throw new IllegalStateException(name);
        }
    }
}
