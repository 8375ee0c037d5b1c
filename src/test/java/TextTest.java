/** THE TEXT: its bytes, its TOKENS, its ITEMS, each FAULT that the document names. */
public final class TextTest extends Checks {
    private static final String DRUM = "drum 2 0 0;";

    public static void main(String[] args) {
        sentence("a TEXT (150 bytes at most)", TextTest::room);
        sentence("A byte (0 .. 127) comes behind THE TEXT", TextTest::bytes);
        sentence("THE TEXT is empty: how many it had", TextTest::clears);
        sentence("ITEMS, each ended by ;", TextTest::endedByStop);
        sentence("drum N LAMP STEP", TextTest::drumNumbers);
        sentence("(once, first of all)", TextTest::onceFirstOfAll);
        sentence("draw and 1 to N numbers (of FRAMES 0, 1, ..)", TextTest::drawNumbers);
        sentence("eye KIND", TextTest::eyeKind);
        sentence("step s", TextTest::stepNumber);
        sentence("turn n (FLASHES, 1 .. 99)", TextTest::turnNumber);
        sentence("words of letters a .. z", TextTest::letters);
        sentence("figures (1 or 2 are one number)", TextTest::figures);
        sentence("blanks (32) between", TextTest::blanks);
        sentence("FAULT: the place of the first byte of the first TOKEN that can not stand there", TextTest::firstFault);
        sentence("a word that is none", TextTest::wordThatIsNone);
        sentence("drum again", TextTest::drumAgain);
        sentence("anything ahead of it", TextTest::aheadOfDrum);
        sentence("a 6th eye at its word", TextTest::sixthEye);
        sentence("a number more than N", TextTest::numberMore);
        sentence("; where there is none", TextTest::stopWhereNone);
        sentence("a run of three figures or more (at its first one)", TextTest::threeFigures);
        sentence("a number not as told", TextTest::numberNotAsTold);
        sentence("a byte that begins none", TextTest::beginsNone);
        sentence("the TEXT's length, if it ends too early (an empty one, too)", TextTest::endsTooEarly);
        sentence("-10 less the FAULT: all stays", TextTest::allStays);
        sentence("THE DRUM is read: how many ITEMS", TextTest::howManyItems);
        sentence("takes the place of all but IMAGES, THE TEXT, THE FRACTION, STATUS", TextTest::takesThePlace);
        sentence("(SEEN ones, NOTES, MARKS none; nothing to undo)", TextTest::noneLeft);
        end("TextTest");
    }

    private static void reads(String text, int want) {
        due("read() of '" + text + "'", read(new ZoeStrips(), text), want);
    }

    private static void fault(String text, int place) {
        reads(text, -10 - place);
    }

    /** The fault is at the sign '^', which is not of the text. */
    private static void faultAt(String marked) {
        int place = marked.indexOf('^');
        fault(marked.substring(0, place) + marked.substring(place + 1), place);
    }

    private static void room() {
        ZoeStrips x = new ZoeStrips();
        String text = DRUM + "step 11;".repeat(17) + "   ";
        for (int i = 0; i < 149; i++) due("type", x.type(text.charAt(i)), i + 1);
        due("the 150th", x.type(text.charAt(149)), 150);
        full(x, "type", ';');
        due("count(11)", x.count(11), 150);
        due("read() of 150 bytes", x.read(), 18);
        due("count(2)", x.count(2), 11);
        full(x, "type", ' ');
        due("clear()", x.clear(), 150);
        due("type", x.type('a'), 1);
        fault(" ".repeat(150), 150);
        fault(" ".repeat(149) + "x", 149);
        fault("x".repeat(150), 0);
        fault(DRUM + " ".repeat(138) + ";", 149);
        fault(DRUM + " ".repeat(135) + "turn", 150);
        fault(";".repeat(150), 0);
    }

    private static void bytes() {
        ZoeStrips x = new ZoeStrips();
        for (int c = 0; c <= 127; c++) due("type", x.type(c), c + 1);
        bad(x, "type", -1);
        bad(x, "type", 128);
        for (int i = 129; i <= 150; i++) x.type(0);
        // BAD stands ahead of FULL.
        bad(x, "type", 128);
        full(x, "type", 127);
    }

    private static void clears() {
        ZoeStrips x = new ZoeStrips();
        due("clear() of an empty one", x.clear(), 0);
        type(x, DRUM);
        due("clear()", x.clear(), 11);
        due("count(11)", x.count(11), 0);
        due("clear() again", x.clear(), 0);
        due("read()", x.read(), -10);
        due("none is refused", refusals(x), 0);
    }

    private static void endedByStop() {
        fault("drum 2 0 0", 10);
        faultAt("drum 2 0 0 ^eye 1;");
        fault(DRUM + "eye 1", 16);
        faultAt(DRUM + "eye 1 ^eye 1;");
        fault(DRUM + "step 1", 17);
        faultAt(DRUM + "step 1 ^turn 1;");
        fault(DRUM + "turn 1", 17);
        faultAt(DRUM + "turn 1 ^draw 1;");
        fault(DRUM + "draw 1", 17);
        faultAt(DRUM + "draw 1 ^eye 1;");
        faultAt(DRUM + "draw 1 1 ^eye 1;");
    }

    private static void drumNumbers() {
        for (int n = 2; n <= 12; n++) reads("drum " + n + " 0 0;", 1);
        for (int n : new int[] {0, 1, 13, 99}) faultAt("drum ^" + n + " 0 0;");
        for (int lamp = 0; lamp <= 5; lamp++) reads("drum 2 " + lamp + " 0;", 1);
        for (int lamp : new int[] {6, 9, 10, 99}) faultAt("drum 2 ^" + lamp + " 0;");
        for (int step = 0; step <= 11; step++) reads("drum 2 0 " + step + ";", 1);
        for (int step : new int[] {12, 99}) faultAt("drum 2 0 ^" + step + ";");
        ZoeStrips x = new ZoeStrips();
        read(x, "drum 12 5 11;");
        counts(x, 12, 5, 11, 0, 0, 0);
    }

    private static void onceFirstOfAll() {
        reads(DRUM, 1);
        faultAt(DRUM + "^drum 2 0 0;");
        faultAt("^eye 0;" + DRUM);
    }

    private static void drawNumbers() {
        faultAt(DRUM + "draw^;");
        ZoeStrips x = new ZoeStrips();
        due("read()", read(x, "drum 3 0 0;draw 7 8 9;draw 1;"), 3);
        drawings(x, 1, 8, 9);
        due("read()", read(x, "drum 3 0 0;draw 7 8 9;draw 0 0;"), 3);
        drawings(x, 0, 0, 9);
        due("read()", read(x, "drum 12 0 0;draw 0 1 2 3 4 5 6 7 8 9 8 7;"), 2);
        drawings(x, 0, 1, 2, 3, 4, 5, 6, 7, 8, 9, 8, 7);
        faultAt(DRUM + "draw ^10;");
        faultAt(DRUM + "draw 9 ^10;");
    }

    private static void eyeKind() {
        for (int kind = 0; kind <= 5; kind++) {
            ZoeStrips x = new ZoeStrips();
            due("read()", read(x, DRUM + "eye " + kind + ";"), 2);
            due("of(0, 0)", x.of(0, 0), kind);
        }
        faultAt(DRUM + "eye ^6;");
        faultAt(DRUM + "eye ^10;");
    }

    private static void stepNumber() {
        for (int s = 0; s <= 11; s++) {
            ZoeStrips x = new ZoeStrips();
            due("read()", read(x, DRUM + "step " + s + ";"), 2);
            due("count(2)", x.count(2), s);
        }
        faultAt(DRUM + "step ^12;");
        faultAt(DRUM + "step ^99;");
    }

    private static void turnNumber() {
        for (int n = 1; n <= 99; n++) {
            ZoeStrips x = new ZoeStrips();
            due("read()", read(x, "drum 7 0 1;turn " + n + ";"), 2);
            due("count(4)", x.count(4), n);
            due("count(3)", x.count(3), n % 7);
        }
        faultAt(DRUM + "turn ^0;");
        faultAt(DRUM + "turn ^00;");
        faultAt(DRUM + "turn ^100;");
    }

    private static void letters() {
        // The bytes beside a and z, and capitals, are no letters: they end a word, and begin none.
        faultAt("^druma 2 0 0;");
        faultAt("^drumz 2 0 0;");
        faultAt("drum^` 2 0 0;");
        faultAt("drum^{ 2 0 0;");
        faultAt("drum^A 2 0 0;");
        faultAt("drum^Z 2 0 0;");
        faultAt("^Drum 2 0 0;");
        faultAt("^dRum 2 0 0;");
    }

    private static void figures() {
        reads("drum 12 0 11;", 1);
        reads("drum 02 00 01;", 1);
        reads("drum 09 05 08;", 1);
        faultAt("drum ^1 2 0 0;");
        ZoeStrips x = new ZoeStrips();
        read(x, "drum 10 05 09;turn 10;");
        counts(x, 10, 5, 9, 0, 10);
        // The bytes beside 0 and 9.
        faultAt("drum 2^/ 0 0;");
        faultAt("drum 2^: 0 0;");
        faultAt("drum ^/2 0 0;");
        faultAt("drum ^:2 0 0;");
        faultAt("drum ^-2 0 0;");
    }

    private static void blanks() {
        reads("drum 2 0 0 ;", 1);
        reads("   drum   2   0   0   ;   ", 1);
        reads("drum2 0 0;eye1;step1;turn1;draw1 1;", 5);
        faultAt("drum ^20 0;");
        faultAt("drum ^200;");
        for (char c : new char[] {0, 9, 10, 13, 31, 33, 127}) {
            faultAt("drum^" + c + "2 0 0;");
            faultAt("^" + c + DRUM);
            faultAt(DRUM + "^" + c);
        }
        faultAt("^dr um 2 0 0;");
    }

    private static void firstFault() {
        faultAt("drum ^1 6 12;");
        faultAt("drum 2 ^6 12;");
        faultAt("drum 2 0 ^12;eye 9;");
        faultAt(DRUM + "eye ^9;eye 9;drum");
        faultAt(DRUM + "  ^blink 100;?");
        faultAt(DRUM + "draw 1 ^100 ?;");
    }

    private static void wordThatIsNone() {
        for (String word : new String[] {"d", "dru", "drums", "rum", "draws", "dra", "eyes", "ey", "ye", "steps",
            "ste", "turns", "tur", "turnturn", "a", "z", "lamp", "spins", "undo", "crum", "drun", "crew", "drav", "bye",
            "eyf", "atep", "steq", "burn", "turm"}) {
            faultAt("^" + word + " 2 0 0;");
            faultAt(DRUM + "^" + word + " 1;");
            faultAt(DRUM + " ^" + word);
            faultAt(DRUM + "eye ^" + word + ";");
            faultAt(DRUM + "eye 1 ^" + word + ";");
        }
    }

    private static void drumAgain() {
        faultAt(DRUM + "^drum 2 0 0;");
        faultAt(DRUM + "eye 1;^drum");
        faultAt("drum ^drum 2 0 0;");
        faultAt("drum 2 0 0 ^drum;");
        faultAt(DRUM + "draw 1 ^drum;");
    }

    private static void aheadOfDrum() {
        for (String item : new String[] {"eye 0;", "step 1;", "turn 1;", "draw 1;", ";", "2 ", "100 ", "x ", "? "}) {
            faultAt("^" + item + DRUM);
            faultAt("  ^" + item + DRUM);
        }
    }

    private static void sixthEye() {
        String five = DRUM + "eye 0;eye 1;eye 2;eye 3;eye 4;";
        ZoeStrips x = new ZoeStrips();
        due("read() of five", read(x, five), 6);
        due("count(5)", x.count(5), 5);
        due("of(4, 0)", x.of(4, 0), 4);
        faultAt(five + "^eye 5;");
        faultAt(five + "^eye 9;");
        faultAt(five + " ^eye");
        reads(five + "turn 1;", 7);
        due("eyes ahead of read() do not count", read(x, five), 6);
    }

    private static void numberMore() {
        faultAt("drum 2 0 0;draw 1 2 ^3;");
        faultAt("drum 2 0 0;draw 1 2 ^33;");
        faultAt("drum 3 0 0;draw 1 2 3 ^4;");
        faultAt("drum 12 0 0;draw 0 1 2 3 4 5 6 7 8 9 8 7 ^6;");
        faultAt("drum 2 0 0 ^0;");
        faultAt(DRUM + "eye 1 ^1;");
        faultAt(DRUM + "step 1 ^1;");
        faultAt(DRUM + "turn 1 ^1;");
    }

    private static void stopWhereNone() {
        faultAt("^;");
        faultAt("drum^;");
        faultAt("drum 2^;");
        faultAt("drum 2 0^;");
        faultAt(DRUM + "^;");
        faultAt(DRUM + "eye^;");
        faultAt(DRUM + "step ^;");
        faultAt(DRUM + "turn  ^;");
        faultAt(DRUM + "draw^;");
        faultAt(DRUM + "eye 1;^;");
    }

    private static void threeFigures() {
        faultAt("drum ^002 0 0;");
        faultAt("drum ^0000000002 0 0;");
        faultAt("drum 2 ^000 0;");
        faultAt("drum 2 0 ^000;");
        faultAt(DRUM + "eye ^001;");
        faultAt(DRUM + "step ^001;");
        faultAt(DRUM + "turn ^001;");
        faultAt(DRUM + "draw ^001;");
        faultAt(DRUM + "draw 1 ^001;");
        faultAt(DRUM + "draw 1 1 ^001;");
        faultAt(DRUM + "^123;");
        faultAt("drum ^" + "1".repeat(140));
    }

    private static void numberNotAsTold() {
        faultAt("drum ^1 0 0;");
        faultAt("drum ^13 0 0;");
        faultAt("drum 2 ^6 0;");
        faultAt("drum 2 0 ^12;");
        faultAt(DRUM + "draw ^10;");
        faultAt(DRUM + "eye ^6;");
        faultAt(DRUM + "step ^12;");
        faultAt(DRUM + "turn ^0;");
        faultAt(DRUM + "^1;");
    }

    private static void beginsNone() {
        for (int c = 0; c <= 127; c++) {
            boolean begins = c == 32 || c == ';' || c >= 'a' && c <= 'z' || c >= '0' && c <= '9';
            if (begins) continue;
            faultAt("^" + (char) c);
            faultAt("drum 2 0 0 ^" + (char) c + ";");
            faultAt(DRUM + " ^" + (char) c);
        }
    }

    private static void endsTooEarly() {
        fault("", 0);
        fault(" ", 1);
        // Cut behind each TOKEN, and with blanks behind that.
        for (String cut : new String[] {"drum", "drum 2", "drum 2 0", "drum 2 0 0", DRUM + "draw", DRUM + "draw 1",
            DRUM + "draw 1 2", DRUM + "eye", DRUM + "eye 1", DRUM + "step", DRUM + "step 1", DRUM + "turn",
            DRUM + "turn 1"}) {
            fault(cut, cut.length());
            fault(cut + "  ", cut.length() + 2);
        }
    }

    private static void allStays() {
        String[] wrongTexts = {"", "drum 5 1 2", "drum 5 1 2;draw 9 9 9 9 9;eye 1;eye 2;eye 3;turn 9;step 3;?"};
        for (String text : wrongTexts) {
            ZoeStrips x = drum(2, 3, 4, 5, 6);
            eyes(x, 4, 5);
            x.seen(3, 4);
            x.note(1, 2, 3, 4);
            x.mark(4, 5, 6);
            x.image(0);
            x.spins(7);
            x.smear(0, 4, 3, 3);
            type(x, text);
            long before = x.digest();
            due("read()", x.read(), -10 - Math.max(0, text.length() - (text.endsWith("?") ? 1 : 0)));
            due("digest()", x.digest(), before);
            due("read() is not among what is refused", refusals(x), 0);
            due("undo()", x.undo(), 0);
            due("clear()", x.clear(), text.length());
            due("from(0)", x.from(0), 1);
            due("from(1)", x.from(1), -3);
        }
    }

    private static void howManyItems() {
        reads(DRUM, 1);
        reads(DRUM + "eye 1;", 2);
        reads(DRUM + "draw 1 2;", 2);
        reads("drum2 0 0;" + "turn1;".repeat(23), 24);
        reads("drum2 0 0;" + "eye1;".repeat(5) + "turn1;".repeat(19), 25);
        ZoeStrips x = new ZoeStrips();
        due("as many flashes as there is room for", read(x, "drum7 0 1;" + "turn99;".repeat(20)), 21);
        due("count(4)", x.count(4), 1980);
        due("count(3)", x.count(3), 1980 % 7);
        due("read()", read(x, DRUM + "eye 1;"), 2);
        due("read() again", x.read(), 2);
        due("count(5)", x.count(5), 1);
        due("a longer one", read(x, DRUM + "eye 1;step 2;turn 3;draw 4 5;"), 5);
        due("a shorter one behind it", read(x, DRUM), 1);
        due("count(5)", x.count(5), 0);
        due("a longer one", read(x, DRUM + "draw 4 5;eye 1;step 2;turn 3;"), 5);
        due("one that ends too early behind it", read(x, "drum 3 0"), -18);
        due("count(5)", x.count(5), 1);
    }

    private static void takesThePlace() {
        ZoeStrips x = drum(3, 4, 5, 6, 7, 8);
        eyes(x, 1, 2, 3);
        x.spins(5);
        x.image(1);
        x.smear(0, 5, 0, 0);
        x.smear(0, x.of(0, 1), 1, 3);
        long above = x.part(0), below = x.part(1);
        x.at(61);
        x.steps(4);
        for (int i = 0; i < 3; i++) x.eye(0);
        due("read()", read(x, "drum 3 0 1;draw 0 9;eye 5;turn 1;"), 4);
        counts(x, 3, 0, 1, 1, 1, 1, 1, 0, 0, 0, 0, 33);
        drawings(x, 0, 9, 0);
        due("of(0, 0)", x.of(0, 0), 5);
        keeps(x, 9);
        moves(x, 1);
        fraction(x, above, below);
        statuses(x, 1, 1, 1);
        due("from(1)", x.from(1), 1);
        counts(x, 4, 3, 4);
        due("from(0)", x.from(0), -3);
    }

    private static void noneLeft() {
        ZoeStrips x = drum(0, 1, 5, 6);
        eyes(x, 0);
        for (int i = 0; i < 6; i++) {
            x.seen(1, 9);
            x.note(0, 1, 1, 9);
            x.mark(0, 0, 9);
        }
        x.spins(1);
        counts(x, 2, 0, 1, 1, 1, 1, 1, 6, 6, 6, 1, 0);
        due("read()", read(x, "drum 2 0 1;eye 1;draw 1 2;step 3;turn 2;"), 5);
        counts(x, 2, 0, 3, 0, 2, 1, 1, 0, 0, 0, 0, 40);
        no(x, "undo");
        due("began(NONE)", x.began(-1), 24);
        due("is(0)", x.is(0), 63);
        due("kinds()", x.kinds(), 63);
        due("seen", x.seen(1, 1), 1);
        due("note", x.note(0, 1, 1, 1), 1);
        due("mark", x.mark(1, 1, 1), 1);
    }
}
