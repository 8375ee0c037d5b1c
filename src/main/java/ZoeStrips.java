/**
 * A zoetrope: a drum of frames under a lamp, eyes that keep what they saw last, and what can be
 * told of it. The document ../shared/DOC.md says what every call answers; its words in capitals
 * (FRAME, FLASH, EYE ..) are the names used here.
 */
public final class ZoeStrips {
    public static final int NONE = -1, BAD = -2, NO = -3, FULL = -4;

    private static final int LEAST_FRAMES = 2, MOST_FRAMES = 12;
    private static final int STEPS = 12, DRAWINGS = 10, KINDS = 6, EYES = 5;
    private static final int LAST_FLASH = 9999, LAST_MOVE = 9999;
    private static final int TURN_FAR = 60, SEEN_FAR = 30, TEXT_TURN_FAR = 99;
    private static final int MARK_FLASHES = 100, MARK_PASSED = 30, ASK_FLASHES = 20;
    private static final int ROWS_ROOM = 6, PAST_ROOM = 8, TEXT_ROOM = 150, LAST_BYTE = 127;
    private static final int HAND_STEPS = 4, HAND_FLASHES = 4;
    private static final int SMEAR_FAR = 6, SMEAR_WHOLE = 10, LAST_SEED = 999999;
    private static final int COUNTS = 12;
    private static final int MORE_THAN_ALL = 1000000;
    private static final int BAD_TEN = -10, NOT_SO_MANY = -5;

    private final Show now = new Show();
    private final Show firstImage = new Show();
    private final Show secondImage = new Show();
    private boolean firstKept;
    private boolean secondKept;

    private final Text text = new Text();

    private long above;
    private long below = 1;

    private int badCalls;
    private int noCalls;
    private int fullCalls;

    private final Moment trial = new Moment();
    private final Strip strip = new Strip();
    private final Beginnings beginnings = new Beginnings();
    private final Tally tally = new Tally();
    private final Smear haze = new Smear();
    private final int[] gainsOfOne = new int[2 * HAND_STEPS];
    private final int[] gainsOfOther = new int[2 * HAND_STEPS];

    public ZoeStrips() {
    }

    // ---- a drum

    public int drum(int n, int lamp, int step) {
        if (!within(n, LEAST_FRAMES, MOST_FRAMES) || !isKind(lamp) || !isStep(step)) {
            return refuseBad(BAD);
        }
        int eyesBefore = now.eyes;
        now.begin(n, lamp, step);
        return eyesBefore;
    }

    public int lamp(int kind) {
        if (!isKind(kind)) {
            return refuseBad(BAD);
        }
        int before = now.lamp;
        now.lamp = kind;
        now.past.empty();
        return before;
    }

    public int eye(int kind) {
        if (!isKind(kind)) {
            return refuseBad(BAD);
        }
        if (now.eyes >= EYES) {
            return refuseFull();
        }
        now.addEye(kind);
        now.past.empty();
        return now.eyes - 1;
    }

    public int type(int c) {
        if (!within(c, 0, LAST_BYTE)) {
            return refuseBad(BAD);
        }
        return text.isFull() ? refuseFull() : text.add(c);
    }

    public int clear() {
        return text.empty();
    }

    public int read() {
        int answer = text.readDraft();
        if (answer > 0) {
            now.become(text.draft);
        }
        return answer;
    }

    // ---- flashes

    public int spins(int n) {
        if (!within(n, 1, TURN_FAR)) {
            return refuseBad(BAD);
        }
        // At the last FLASH none comes, so there is nothing that could be undone.
        if (now.moment.flash < LAST_FLASH) {
            now.past.push(now.moment);
        }
        now.turn(n);
        return now.moment.frame;
    }

    public int steps(int s) {
        if (!isStep(s)) {
            return refuseBad(BAD);
        }
        int before = now.moment.step;
        if (before == s) {
            return refuseNo();
        }
        now.past.push(now.moment);
        now.moment.step = s;
        return before;
    }

    public int draws(int f, int p) {
        if (!isFrame(f) || !isDrawing(p)) {
            return refuseBad(BAD);
        }
        int before = cell(now.moment.drawings, f);
        if (before == p) {
            return refuseNo();
        }
        now.past.push(now.moment);
        put(now.moment.drawings, f, p);
        return before;
    }

    public int undo() {
        if (now.past.size < 1) {
            return refuseNo();
        }
        now.past.pop(now.moment);
        return now.moment.flash;
    }

    public int of(int e, int what) {
        if (!isEye(e)) {
            return refuseBad(BAD);
        }
        switch (what) {
            case 0: return cell(now.kinds, e);
            case 1: return cell(now.moment.keeps, e);
            case 2: return cell(now.moment.moves, e);
            default: return refuseBad(BAD);
        }
    }

    public int drawn(int f) {
        return isFrame(f) ? cell(now.moment.drawings, f) : refuseBad(BAD);
    }

    // ---- what comes

    public int at(int m) {
        if (!within(m, 0, TURN_FAR)) {
            return refuseBad(BAD);
        }
        tryFlashes(now.moment.step, m);
        return trial.frame;
    }

    public int sees(int e, int m) {
        if (!isEye(e) || !within(m, 0, TURN_FAR)) {
            return refuseBad(BAD);
        }
        tryFlashes(now.moment.step, m);
        return cell(trial.keeps, e);
    }

    public int round() {
        startTrial(now.moment.step);
        for (int m = 1; m <= TURN_FAR; m++) {
            now.flash(trial);
            if (trialIsAsNow()) {
                return m;
            }
        }
        return NONE;
    }

    public int still(int m) {
        if (!within(m, 1, TURN_FAR)) {
            return refuseBad(BAD);
        }
        int bits = 0;
        for (int s = 0; s < STEPS; s++) {
            if (standsStill(s, m)) {
                bits |= 1 << s;
            }
        }
        return bits;
    }

    public int most(int e, int m, int what) {
        if (!isEye(e) || !within(m, 1, TURN_FAR) || !within(what, 0, 1)) {
            return refuseBad(BAD);
        }
        int bestStep = 0;
        int bestMoves = -1;
        for (int s = 0; s < STEPS; s++) {
            tryFlashes(s, m);
            int moves = cell(trial.moves, e);
            if (moves > bestMoves) {
                bestMoves = moves;
                bestStep = s;
            }
        }
        return what == 0 ? bestStep : bestMoves;
    }

    public int smooth(int f) {
        if (f != NONE && !isFrame(f)) {
            return refuseBad(BAD_TEN);
        }
        strip.plan(now.moment.drawings, now.frames);
        return f == NONE ? strip.fewest : cell(strip.best, f);
    }

    // ---- how it began

    public int seen(int k, int p) {
        if (!within(k, 1, SEEN_FAR) || !isDrawing(p)) {
            return refuseBad(BAD);
        }
        return now.seen.isFull() ? refuseFull() : now.seen.add(k, p, 0, 0);
    }

    public int began(int j) {
        if (j < NONE) {
            return refuseBad(BAD_TEN);
        }
        beginnings.gather(now);
        if (j == NONE) {
            return beginnings.size;
        }
        return j < beginnings.size ? cell(beginnings.fitting, j) : NOT_SO_MANY;
    }

    public int tell() {
        beginnings.gather(now);
        if (beginnings.size < 1) {
            return NONE;
        }
        int best = NONE;
        int fewest = MORE_THAN_ALL;
        for (int k = 1; k <= SEEN_FAR; k++) {
            beginnings.tallyAt(k, now, tally);
            if (tally.most < fewest) {
                fewest = tally.most;
                best = k;
            }
        }
        return best;
    }

    public int note(int e, int p, int q, int x) {
        if (!isEye(e) || !isDrawing(p) || !isDrawing(q) || !isDrawing(x)) {
            return refuseBad(BAD);
        }
        return now.notes.isFull() ? refuseFull() : now.notes.add(e, p, q, x);
    }

    public int mark(int s, int k, int x) {
        if (!isStep(s) || !within(k, 0, MARK_FLASHES - 1) || !within(x, 0, MARK_PASSED)) {
            return refuseBad(BAD);
        }
        return now.marks.isFull() ? refuseFull() : now.marks.add(s, k, x, 0);
    }

    public int forget(int what) {
        switch (what) {
            case 0: return now.seen.empty();
            case 1: return now.notes.empty();
            case 2: return now.marks.empty();
            default: return refuseBad(BAD);
        }
    }

    public int is(int e) {
        return isEye(e) ? eyeKinds(e) : refuseBad(BAD);
    }

    public int look(int e) {
        if (!isEye(e)) {
            return refuseBad(BAD);
        }
        int kinds = eyeKinds(e);
        return kinds == 0 ? NONE : bestLook(kinds);
    }

    public int kinds() {
        return lampKinds();
    }

    public int ask() {
        int kinds = lampKinds();
        return kinds == 0 ? NONE : bestAsk(kinds);
    }

    public int hands(int a, int b, int k) {
        if (!isEye(a) || !isEye(b) || a == b || k < NONE) {
            return refuseBad(BAD_TEN);
        }
        fillGains(a, b);
        int found = 0;
        for (int i = 0; i < HAND_STEPS; i++) {
            for (int j = 0; j < HAND_STEPS; j++) {
                if (rests(i, j)) {
                    if (found == k) {
                        return 10 * i + j;
                    }
                    found++;
                }
            }
        }
        return k == NONE ? found : NOT_SO_MANY;
    }

    public int smear(int e, int x, int n, int c) {
        if (!isEye(e) || !isDrawing(x) || !within(n, 0, SMEAR_FAR) || !within(c, 0, SMEAR_WHOLE)) {
            return refuseBad(BAD);
        }
        startTrial(now.moment.step);
        haze.begin(cell(now.moment.keeps, e));
        long whole = 1;
        for (int i = 0; i < n; i++) {
            now.flash(trial);
            haze.flash(cell(now.kinds, e), now.drawingAtHand(trial), c);
            whole *= SMEAR_WHOLE;
        }
        keepFraction(haze.weightOf(x), whole);
        return 1;
    }

    public int nights(int seed, int n) {
        if (!within(seed, 0, LAST_SEED) || !within(n, 0, TURN_FAR)) {
            return refuseBad(BAD);
        }
        startTrial(now.moment.step);
        long x = seed;
        for (int i = 0; i < n; i++) {
            x = (x * 1103515245L + 12345L) % 2147483648L;
            trial.step = (int) (x / 65536L % STEPS);
            now.flash(trial);
        }
        return now.movesTogether(trial);
    }

    // ---- what there is

    public long part(int what) {
        switch (what) {
            case 0: return above;
            case 1: return below;
            default: return refuseBad(BAD);
        }
    }

    public int image(int i) {
        if (!within(i, 0, 1)) {
            return refuseBad(BAD);
        }
        if (i == 0) {
            firstImage.become(now);
            firstKept = true;
        } else {
            secondImage.become(now);
            secondKept = true;
        }
        return 1;
    }

    public int from(int i) {
        if (!within(i, 0, 1)) {
            return refuseBad(BAD);
        }
        boolean kept = i == 0 ? firstKept : secondKept;
        if (!kept) {
            return refuseNo();
        }
        now.become(i == 0 ? firstImage : secondImage);
        return 1;
    }

    public int status(int what) {
        switch (what) {
            case 0: return badCalls;
            case 1: return noCalls;
            case 2: return fullCalls;
            default: return refuseBad(NONE);
        }
    }

    public int count(int what) {
        return within(what, 0, COUNTS - 1) ? countOf(what) : refuseBad(BAD);
    }

    public long digest() {
        long h = 1787;
        for (int what = 0; what < COUNTS; what++) {
            h = 31 * h + countOf(what);
        }
        for (int f = 0; f < now.frames; f++) {
            h = 31 * h + cell(now.moment.drawings, f);
        }
        for (int e = 0; e < now.eyes; e++) {
            h = 31 * h + cell(now.kinds, e);
            h = 31 * h + cell(now.moment.keeps, e);
            h = 31 * h + cell(now.moment.moves, e);
        }
        h = now.seen.digestOnto(h);
        h = now.notes.digestOnto(h);
        h = now.marks.digestOnto(h);
        h = 31 * h + above;
        return 31 * h + below;
    }

    // ---- refusals

    private int refuseBad(int answer) {
        badCalls++;
        return answer;
    }

    private int refuseNo() {
        noCalls++;
        return NO;
    }

    private int refuseFull() {
        fullCalls++;
        return FULL;
    }

    // ---- what a number may be

    private static boolean within(int value, int low, int high) {
        return value >= low && value <= high;
    }

    private static boolean isKind(int kind) {
        return within(kind, 0, KINDS - 1);
    }

    private static boolean isStep(int step) {
        return within(step, 0, STEPS - 1);
    }

    private static boolean isDrawing(int drawing) {
        return within(drawing, 0, DRAWINGS - 1);
    }

    private boolean isFrame(int frame) {
        return within(frame, 0, now.frames - 1);
    }

    private boolean isEye(int eye) {
        return within(eye, 0, now.eyes - 1);
    }

    // ---- rows: every index is looked at here

    private static int cell(int[] row, int i) {
        return i >= 0 && i < row.length ? row[i] : 0;
    }

    private static void put(int[] row, int i, int value) {
        if (i >= 0 && i < row.length) {
            row[i] = value;
        }
    }

    private static void fill(int[] row, int value) {
        for (int i = 0; i < row.length; i++) {
            row[i] = value;
        }
    }

    private static void copyRow(int[] from, int[] to) {
        for (int i = 0; i < from.length && i < to.length; i++) {
            to[i] = from[i];
        }
    }

    private static int wrap(int place, int length) {
        return length < 1 ? 0 : Math.floorMod(place, length);
    }

    // ---- trials: what comes is tried on a moment apart, so nothing is changed

    private void startTrial(int step) {
        trial.become(now.moment);
        trial.step = step;
        // From 0 on a trial's MOVES are those that are more, and never come near their end.
        fill(trial.moves, 0);
    }

    private void tryFlashes(int step, int flashes) {
        startTrial(step);
        for (int i = 0; i < flashes; i++) {
            now.flash(trial);
        }
    }

    private boolean trialIsAsNow() {
        if (trial.frame != now.moment.frame) {
            return false;
        }
        for (int e = 0; e < now.eyes; e++) {
            if (cell(trial.keeps, e) != cell(now.moment.keeps, e)) {
                return false;
            }
        }
        return true;
    }

    private boolean standsStill(int step, int flashes) {
        int drawing = now.drawingAtHand(now.moment);
        startTrial(step);
        for (int i = 0; i < flashes; i++) {
            now.flash(trial);
            if (now.drawingAtHand(trial) != drawing) {
                return false;
            }
        }
        return true;
    }

    // ---- what an eye, what the lamp is

    private int eyeKinds(int e) {
        int bits = 0;
        for (int kind = 0; kind < KINDS; kind++) {
            if (eyeFits(e, kind)) {
                bits |= 1 << kind;
            }
        }
        return bits;
    }

    private boolean eyeFits(int e, int kind) {
        Rows notes = now.notes;
        for (int i = 0; i < notes.size; i++) {
            boolean mine = notes.value(i, 0) == e;
            if (mine && Eyes.sight(kind, notes.value(i, 1), notes.value(i, 2)) != notes.value(i, 3)) {
                return false;
            }
        }
        return true;
    }

    private int bestLook(int kinds) {
        int best = NONE;
        int fewest = MORE_THAN_ALL;
        for (int look = 0; look < DRAWINGS * DRAWINGS; look++) {
            tally.begin();
            for (int kind = 0; kind < KINDS; kind++) {
                if (hasBit(kinds, kind)) {
                    tally.add(Eyes.sight(kind, look / DRAWINGS, look % DRAWINGS));
                }
            }
            if (tally.most < fewest) {
                fewest = tally.most;
                best = look;
            }
        }
        return best;
    }

    private int lampKinds() {
        int bits = 0;
        for (int kind = 0; kind < KINDS; kind++) {
            if (lampFits(kind)) {
                bits |= 1 << kind;
            }
        }
        return bits;
    }

    private boolean lampFits(int kind) {
        Rows marks = now.marks;
        for (int i = 0; i < marks.size; i++) {
            if (Lamps.passing(kind, marks.value(i, 0), marks.value(i, 1)) != marks.value(i, 2)) {
                return false;
            }
        }
        return true;
    }

    private int bestAsk(int kinds) {
        int best = NONE;
        int fewest = MORE_THAN_ALL;
        for (int s = 0; s < STEPS; s++) {
            for (int k = 0; k < ASK_FLASHES; k++) {
                tallyPassing(kinds, s, k);
                if (tally.most < fewest) {
                    fewest = tally.most;
                    best = 100 * s + k;
                }
            }
        }
        return best;
    }

    private void tallyPassing(int kinds, int step, int flash) {
        tally.begin();
        for (int kind = 0; kind < KINDS; kind++) {
            if (hasBit(kinds, kind)) {
                tally.add(Lamps.passing(kind, step, flash));
            }
        }
    }

    private static boolean hasBit(int bits, int bit) {
        return (bits >> bit & 1) == 1;
    }

    // ---- two who turn it

    private void fillGains(int a, int b) {
        for (int sum = 0; sum <= 2 * (HAND_STEPS - 1); sum++) {
            tryFlashes(sum, HAND_FLASHES);
            put(gainsOfOne, sum, cell(trial.moves, a));
            put(gainsOfOther, sum, cell(trial.moves, b));
        }
    }

    private static int gain(int[] gains, int own, int others) {
        int less = own == HAND_STEPS - 1 ? 1 : 0;
        return cell(gains, own + others) - less;
    }

    private boolean rests(int i, int j) {
        for (int another = 0; another < HAND_STEPS; another++) {
            if (gain(gainsOfOne, another, j) > gain(gainsOfOne, i, j)
                    || gain(gainsOfOther, another, i) > gain(gainsOfOther, j, i)) {
                return false;
            }
        }
        return true;
    }

    // ---- the fraction, the counts

    private void keepFraction(long over, long under) {
        long divisor = greatestDivisor(over, under);
        if (divisor > 0) {
            above = over / divisor;
            below = under / divisor;
        }
    }

    private static long greatestDivisor(long a, long b) {
        // Each turn makes b smaller; numbers below 10^7 need far fewer than 64 of them.
        for (int i = 0; i < 64 && b > 0; i++) {
            long rest = a % b;
            a = b;
            b = rest;
        }
        return a;
    }

    private int countOf(int what) {
        switch (what) {
            case 0: return now.frames;
            case 1: return now.lamp;
            case 2: return now.moment.step;
            case 3: return now.moment.frame;
            case 4: return now.moment.flash;
            case 5: return now.eyes;
            case 6: return now.movesTogether(now.moment);
            case 7: return now.seen.size;
            case 8: return now.notes.size;
            case 9: return now.marks.size;
            case 10: return now.past.size;
            case 11: return text.length;
            default: return 0;
        }
    }

    /** KINDS of LAMPS: how many FRAMES pass ahead of a FLASH, each by the one it stands under. */
    private static final class Lamps {
        static int passing(int kind, int step, int flash) {
            switch (kind) {
                case 1: return twice(step);
                case 2: return jerk(step, flash);
                case 3: return flash % 4 == 0 ? twice(step) + 1 : twice(step);
                case 4: return flash % 5 == 4 ? 0 : jerk(step, flash);
                case 5: return Math.max(1, step);
                default: return step;
            }
        }

        private static int twice(int step) {
            return 2 * step;
        }

        private static int jerk(int step, int flash) {
            return flash % 2 == 0 ? step : step + 1;
        }
    }

    /** KINDS of EYES: what one SEES of a DRAWING, KEEPING another, each by the one it stands under. */
    private static final class Eyes {
        static int sight(int kind, int drawing, int kept) {
            switch (kind) {
                case 1: return lazy(drawing, kept);
                case 2: return sharp(drawing, kept);
                case 3: return drawing == 0 ? kept : lazy(drawing, kept);
                case 4: return child(sharp(drawing, kept), kept);
                case 5: return drawing == kept ? 0 : drawing;
                default: return drawing;
            }
        }

        private static int lazy(int drawing, int kept) {
            return (drawing + kept) / 2;
        }

        private static int sharp(int drawing, int kept) {
            return Math.abs(drawing - kept) == 1 ? kept : drawing;
        }

        private static int child(int sharpSight, int kept) {
            return sharpSight > kept ? Math.min(DRAWINGS - 1, sharpSight + 1) : sharpSight;
        }
    }

    /** All that UNDO brings back. */
    private static final class Moment {
        static final int SIZE = 3 + MOST_FRAMES + 2 * EYES;

        int frame;
        int flash;
        int step = 1;
        final int[] drawings = new int[MOST_FRAMES];
        final int[] keeps = new int[EYES];
        final int[] moves = new int[EYES];

        void begin(int firstStep) {
            frame = 0;
            flash = 0;
            step = firstStep;
            fill(drawings, 0);
            fill(keeps, 0);
            fill(moves, 0);
        }

        void become(Moment other) {
            frame = other.frame;
            flash = other.flash;
            step = other.step;
            copyRow(other.drawings, drawings);
            copyRow(other.keeps, keeps);
            copyRow(other.moves, moves);
        }

        void writeTo(int[] cells, int place) {
            put(cells, place, frame);
            put(cells, place + 1, flash);
            put(cells, place + 2, step);
            int next = place + 3;
            for (int f = 0; f < MOST_FRAMES; f++) {
                put(cells, next + f, cell(drawings, f));
            }
            next += MOST_FRAMES;
            for (int e = 0; e < EYES; e++) {
                put(cells, next + e, cell(keeps, e));
                put(cells, next + EYES + e, cell(moves, e));
            }
        }

        void takeFrom(int[] cells, int place) {
            frame = cell(cells, place);
            flash = cell(cells, place + 1);
            step = cell(cells, place + 2);
            int next = place + 3;
            for (int f = 0; f < MOST_FRAMES; f++) {
                put(drawings, f, cell(cells, next + f));
            }
            next += MOST_FRAMES;
            for (int e = 0; e < EYES; e++) {
                put(keeps, e, cell(cells, next + e));
                put(moves, e, cell(cells, next + EYES + e));
            }
        }
    }

    /** What may be undone, the last at the end; in one row, so that a run makes no objects for it. */
    private static final class Past {
        private final int[] cells = new int[PAST_ROOM * Moment.SIZE];
        int size;

        void empty() {
            size = 0;
        }

        void push(Moment moment) {
            if (size >= PAST_ROOM) {
                dropOldest();
            }
            moment.writeTo(cells, size * Moment.SIZE);
            size++;
        }

        void pop(Moment moment) {
            if (size > 0) {
                size--;
                moment.takeFrom(cells, size * Moment.SIZE);
            }
        }

        void become(Past other) {
            copyRow(other.cells, cells);
            size = other.size;
        }

        private void dropOldest() {
            for (int i = Moment.SIZE; i < cells.length; i++) {
                put(cells, i - Moment.SIZE, cell(cells, i));
            }
            size = PAST_ROOM - 1;
        }
    }

    /** SEEN ones, NOTES or MARKS, as they come. */
    private static final class Rows {
        private final int width;
        private final int[] cells = new int[4 * ROWS_ROOM];
        int size;

        Rows(int width) {
            this.width = width;
        }

        boolean isFull() {
            return size >= ROWS_ROOM;
        }

        int add(int first, int second, int third, int fourth) {
            int place = 4 * size;
            put(cells, place, first);
            put(cells, place + 1, second);
            put(cells, place + 2, third);
            put(cells, place + 3, fourth);
            size++;
            return size;
        }

        int value(int row, int column) {
            return cell(cells, 4 * row + column);
        }

        int empty() {
            int before = size;
            size = 0;
            return before;
        }

        void become(Rows other) {
            copyRow(other.cells, cells);
            size = other.size;
        }

        long digestOnto(long h) {
            for (int row = 0; row < size; row++) {
                for (int column = 0; column < width; column++) {
                    h = 31 * h + value(row, column);
                }
            }
            return h;
        }
    }

    /** All that an IMAGE keeps. */
    private static final class Show {
        int frames = LEAST_FRAMES;
        int lamp;
        int eyes;
        final int[] kinds = new int[EYES];
        final Moment moment = new Moment();
        final Past past = new Past();
        final Rows seen = new Rows(2);
        final Rows notes = new Rows(4);
        final Rows marks = new Rows(3);

        void begin(int n, int lampKind, int step) {
            frames = n;
            lamp = lampKind;
            eyes = 0;
            fill(kinds, 0);
            moment.begin(step);
            past.empty();
            seen.empty();
            notes.empty();
            marks.empty();
        }

        void become(Show other) {
            frames = other.frames;
            lamp = other.lamp;
            eyes = other.eyes;
            copyRow(other.kinds, kinds);
            moment.become(other.moment);
            past.become(other.past);
            seen.become(other.seen);
            notes.become(other.notes);
            marks.become(other.marks);
        }

        void addEye(int kind) {
            put(kinds, eyes, kind);
            put(moment.keeps, eyes, 0);
            put(moment.moves, eyes, 0);
            eyes++;
        }

        void turn(int flashes) {
            for (int i = 0; i < flashes && moment.flash < LAST_FLASH; i++) {
                flash(moment);
            }
        }

        void flash(Moment m) {
            m.flash++;
            m.frame = wrap(m.frame + Lamps.passing(lamp, m.step, m.flash), frames);
            int drawing = drawingAtHand(m);
            for (int e = 0; e < eyes; e++) {
                int kept = cell(m.keeps, e);
                int sight = Eyes.sight(cell(kinds, e), drawing, kept);
                if (sight != kept) {
                    put(m.moves, e, Math.min(LAST_MOVE, cell(m.moves, e) + 1));
                }
                put(m.keeps, e, sight);
            }
        }

        int drawingAtHand(Moment m) {
            return cell(m.drawings, m.frame);
        }

        int movesTogether(Moment m) {
            int together = 0;
            for (int e = 0; e < eyes; e++) {
                together += cell(m.moves, e);
            }
            return together;
        }
    }

    /** THE TEXT, and its reading: TOKENS first, ITEMS over them second. */
    private static final class Text {
        private static final int END = 0, NUMBER = 1, STOP = 2, WRONG = 3;
        private static final int DRUM = 4, DRAW = 5, EYE = 6, STEP = 7, TURN = 8;
        private static final int BLANK = 0, LETTER = 1, FIGURE = 2, SIGN = 3;

        private final int[] bytes = new int[TEXT_ROOM];
        int length;
        /** Behind a FAULT all stays, so THE TEXT is read into a drum apart. */
        final Show draft = new Show();

        /** Of each TOKEN, and of the END behind the last: its first place, the place behind it, what it is. */
        private final int[] starts = new int[TEXT_ROOM + 1];
        private final int[] ends = new int[TEXT_ROOM + 1];
        private final int[] tokens = new int[TEXT_ROOM + 1];
        private final int[] values = new int[TEXT_ROOM + 1];
        /** The TOKEN at hand: at a FAULT it is the one that can not stand there. */
        private int current;

        boolean isFull() {
            return length >= TEXT_ROOM;
        }

        int add(int c) {
            put(bytes, length, c);
            length++;
            return length;
        }

        int empty() {
            int before = length;
            length = 0;
            return before;
        }

        /** How many ITEMS, or -10 less the FAULT. */
        int readDraft() {
            nameTokens(splitTokens());
            current = 0;
            if (token() != DRUM || !takeDrum()) {
                return fault();
            }
            int items = 1;
            while (items <= TEXT_ROOM) {
                current++;
                if (token() == END) {
                    break;
                }
                if (!takeItem()) {
                    return fault();
                }
                items++;
            }
            return items;
        }

        private int fault() {
            return BAD_TEN - cell(starts, current);
        }

        private boolean takeDrum() {
            if (!takeNumber(LEAST_FRAMES, MOST_FRAMES)) {
                return false;
            }
            int frames = value();
            if (!takeNumber(0, KINDS - 1)) {
                return false;
            }
            int lamp = value();
            if (!takeNumber(0, STEPS - 1)) {
                return false;
            }
            draft.begin(frames, lamp, value());
            return takeStop();
        }

        private boolean takeItem() {
            switch (token()) {
                case DRAW:
                    return takeDraw();
                case EYE:
                    if (draft.eyes >= EYES || !takeNumber(0, KINDS - 1)) {
                        return false;
                    }
                    draft.addEye(value());
                    return takeStop();
                case STEP:
                    if (!takeNumber(0, STEPS - 1)) {
                        return false;
                    }
                    draft.moment.step = value();
                    return takeStop();
                case TURN:
                    if (!takeNumber(1, TEXT_TURN_FAR)) {
                        return false;
                    }
                    draft.turn(value());
                    return takeStop();
                default:
                    return false;
            }
        }

        private boolean takeDraw() {
            for (int f = 0; f < draft.frames; f++) {
                if (!takeNumber(0, DRAWINGS - 1)) {
                    return f > 0 && token() == STOP;
                }
                put(draft.moment.drawings, f, value());
            }
            return takeStop();
        }

        private boolean takeNumber(int low, int high) {
            current++;
            return token() == NUMBER && within(value(), low, high);
        }

        private boolean takeStop() {
            current++;
            return token() == STOP;
        }

        private int token() {
            return cell(tokens, current);
        }

        private int value() {
            return cell(values, current);
        }

        /** How many TOKENS there are, the END not among them. */
        private int splitTokens() {
            int size = 0;
            int before = BLANK;
            for (int i = 0; i < length; i++) {
                int sort = sortOf(cell(bytes, i));
                boolean goesOn = sort == before && (sort == LETTER || sort == FIGURE);
                if (sort != BLANK && !goesOn) {
                    put(starts, size, i);
                    size++;
                }
                if (sort != BLANK) {
                    put(ends, size - 1, i + 1);
                }
                before = sort;
            }
            return size;
        }

        private void nameTokens(int size) {
            for (int i = 0; i < size; i++) {
                put(tokens, i, tokenFrom(cell(starts, i), cell(ends, i)));
                put(values, i, numberFrom(cell(starts, i), cell(ends, i)));
            }
            put(tokens, size, END);
            put(starts, size, length);
        }

        private int tokenFrom(int start, int end) {
            int first = cell(bytes, start);
            switch (sortOf(first)) {
                case LETTER: return wordFrom(start, end);
                case FIGURE: return end - start > 2 ? WRONG : NUMBER;
                default: return first == ';' ? STOP : WRONG;
            }
        }

        private int wordFrom(int start, int end) {
            if (isWord("drum", start, end)) {
                return DRUM;
            }
            if (isWord("draw", start, end)) {
                return DRAW;
            }
            if (isWord("eye", start, end)) {
                return EYE;
            }
            if (isWord("step", start, end)) {
                return STEP;
            }
            return isWord("turn", start, end) ? TURN : WRONG;
        }

        private boolean isWord(String word, int start, int end) {
            if (end - start != word.length()) {
                return false;
            }
            for (int i = 0; i < word.length(); i++) {
                if (cell(bytes, start + i) != word.charAt(i)) {
                    return false;
                }
            }
            return true;
        }

        private int numberFrom(int start, int end) {
            int tens = end - start > 1 ? cell(bytes, start) - '0' : 0;
            return 10 * tens + cell(bytes, end - 1) - '0';
        }

        private static int sortOf(int c) {
            if (c == ' ') {
                return BLANK;
            }
            if (c >= 'a' && c <= 'z') {
                return LETTER;
            }
            return c >= '0' && c <= '9' ? FIGURE : SIGN;
        }
    }

    /** SMOOTH: the first strip of those that need the fewest FRAMES drawn anew. */
    private static final class Strip {
        /** By FRAME and DRAWING: the fewest anew from this FRAME to the last. */
        private final int[] costs = new int[MOST_FRAMES * DRAWINGS];
        final int[] best = new int[MOST_FRAMES];
        int fewest;

        void plan(int[] drawings, int frames) {
            fewest = MORE_THAN_ALL;
            int first = 0;
            for (int drawing = 0; drawing < DRAWINGS; drawing++) {
                fillCosts(drawings, frames, drawing);
                if (cost(0, drawing) < fewest) {
                    fewest = cost(0, drawing);
                    first = drawing;
                }
            }
            fillCosts(drawings, frames, first);
            put(best, 0, first);
            for (int f = 1; f < frames; f++) {
                put(best, f, bestBeside(f, cell(best, f - 1)));
            }
        }

        /** The last FRAME stands beside FRAME 0, so the costs hold for one DRAWING of that. */
        private void fillCosts(int[] drawings, int frames, int first) {
            for (int f = frames - 1; f >= 0; f--) {
                for (int drawing = 0; drawing < DRAWINGS; drawing++) {
                    int own = cell(drawings, f) == drawing ? 0 : 1;
                    int rest = f == frames - 1
                            ? closing(drawing, first)
                            : cost(f + 1, bestBeside(f + 1, drawing));
                    put(costs, f * DRAWINGS + drawing, Math.min(MORE_THAN_ALL, own + rest));
                }
            }
        }

        private static int closing(int drawing, int first) {
            return Math.abs(drawing - first) <= 1 ? 0 : MORE_THAN_ALL;
        }

        private int bestBeside(int f, int beside) {
            int least = Math.max(0, beside - 1);
            int found = least;
            for (int drawing = least; drawing <= beside + 1 && drawing < DRAWINGS; drawing++) {
                if (cost(f, drawing) < cost(f, found)) {
                    found = drawing;
                }
            }
            return found;
        }

        private int cost(int f, int drawing) {
            return cell(costs, f * DRAWINGS + drawing);
        }
    }

    /** BEGAN: the FRAMES and STEPS that all SEEN ones leave. */
    private static final class Beginnings {
        /** By STEP and FLASH: how many FRAMES passed from FLASH 0 on. */
        private final int[] passed = new int[STEPS * (SEEN_FAR + 1)];
        final int[] fitting = new int[MOST_FRAMES * STEPS];
        int size;

        void gather(Show show) {
            fillPassed(show.lamp);
            size = 0;
            for (int code = 0; code < show.frames * STEPS; code++) {
                if (fits(code, show)) {
                    put(fitting, size, code);
                    size++;
                }
            }
        }

        /** Counts what gather() found by the DRAWING at hand behind so many FLASHES. */
        void tallyAt(int flashes, Show show, Tally tally) {
            tally.begin();
            for (int i = 0; i < size; i++) {
                tally.add(drawingAt(cell(fitting, i), flashes, show));
            }
        }

        private void fillPassed(int lamp) {
            for (int step = 0; step < STEPS; step++) {
                int sum = 0;
                for (int flash = 1; flash <= SEEN_FAR; flash++) {
                    sum += Lamps.passing(lamp, step, flash);
                    put(passed, step * (SEEN_FAR + 1) + flash, sum);
                }
            }
        }

        private boolean fits(int code, Show show) {
            for (int i = 0; i < show.seen.size; i++) {
                if (drawingAt(code, show.seen.value(i, 0), show) != show.seen.value(i, 1)) {
                    return false;
                }
            }
            return true;
        }

        private int drawingAt(int code, int flashes, Show show) {
            int sum = cell(passed, code % STEPS * (SEEN_FAR + 1) + flashes);
            return cell(show.moment.drawings, wrap(code / STEPS + sum, show.frames));
        }
    }

    /** Counts like numbers (0 .. 31), and how many the most of them are. */
    private static final class Tally {
        private final int[] counts = new int[32];
        int most;

        void begin() {
            fill(counts, 0);
            most = 0;
        }

        void add(int number) {
            int so = cell(counts, number) + 1;
            put(counts, number, so);
            most = Math.max(most, so);
        }
    }

    /** SMEAR: by what an EYE may KEEP, its weight; all weights together are 10 for each FLASH. */
    private static final class Smear {
        private final int[] weights = new int[DRAWINGS];
        private final int[] before = new int[DRAWINGS];

        void begin(int kept) {
            fill(weights, 0);
            put(weights, kept, 1);
        }

        void flash(int kind, int drawing, int unseen) {
            copyRow(weights, before);
            fill(weights, 0);
            for (int kept = 0; kept < DRAWINGS; kept++) {
                int weight = cell(before, kept);
                add(kept, weight * unseen);
                add(Eyes.sight(kind, drawing, kept), weight * (SMEAR_WHOLE - unseen));
            }
        }

        int weightOf(int kept) {
            return cell(weights, kept);
        }

        private void add(int kept, int weight) {
            put(weights, kept, weightOf(kept) + weight);
        }
    }
}
