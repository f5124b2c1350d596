import java.util.Arrays;

/**
 * Rings along an icicle. The document (DOC.md) numbers what each call promises; its words in capitals are used
 * here in its sense. No call throws: what the document refuses is answered by an ERROR.
 */
public final class IcicleRings {
    private static final int LOW = -1000000000;
    private static final int BEYOND = 1;
    private static final int NONE = 2;
    private static final int STATE = 3;
    private static final int FULL = 4;
    private static final int KIND = 5;

    private static final int MOST_CELLS = 40;
    private static final int MOST_WIDE = 99999;
    private static final int MOST_SALT = 999999;
    private static final int MOST_WATER = 999999;
    private static final int FIRST_WIDE = 10;
    private static final int MOST_NOW = 9999;
    private static final int MOST_GOING = 100;
    private static final int MOST_AHEAD = 60;

    private static final int WATER = 0;
    private static final int SALTY = 1;
    private static final int COLD = 2;
    private static final int WIND = 3;
    private static final int DROP = 4;
    private static final int BEARS = 5;
    private static final int SETTINGS = 6;
    private static final int[] SETTING_LEAST = {0, 0, -50, 0, 1, 0};
    private static final int[] SETTING_MOST = {9999, 99, 99, 99, 999, 9999999};
    private static final int[] SETTING_FIRST = {200, 0, 20, 0, 50, 100000};

    private static final int MOST_CAUSES = 6;
    private static final int KINDS = 7;
    private static final int MOST_M = 99;

    private static final int USES = 2;
    private static final int USE_WATER = 0;
    private static final int USE_COLD = 1;
    private static final int[] USE_SETTING = {WATER, COLD};

    private static final int MOST_TAPE = 50;
    private static final int MOST_OPEN = 5;
    private static final int MOST_DIGITS = 4;

    private static final int MOST_BOXES = 5;
    private static final int BOX_PARTS = 3;
    private static final int[] BOX_SETTING = {COLD, WIND, SALTY};

    private static final int SHEETS = 4;
    private static final int MOST_NUMBERS = 40;
    private static final int MOST_OFF = 1000000;
    private static final int MOST_WAITING = 20;
    private static final int MOST_TRACE = 40;

    private final Kept kept;
    private final Kept imaged;
    private final Icicle ahead;
    private final Row[] sheets;
    private final Row[] grown;
    private final Row ringsNow;
    private final Row ringsThen;
    private final Row bodies;
    private final int[] errors;
    private int images;

    // Promise 1. All rows that calls need are made here, so that calls make hardly any.
    public IcicleRings() {
        kept = new Kept();
        imaged = new Kept();
        ahead = new Icicle();
        sheets = new Row[SHEETS];
        for (int i = 0; i < SHEETS; i++) {
            sheets[i] = new Row(MOST_NUMBERS, 0);
        }
        grown = new Row[MOST_CAUSES];
        for (int i = 0; i < MOST_CAUSES; i++) {
            grown[i] = new Row(MOST_CELLS, 32);
        }
        ringsNow = new Row(MOST_CELLS, 32);
        ringsThen = new Row(MOST_CELLS, 32);
        bodies = new Row(MOST_TRACE, 32);
        errors = new int[KIND + 1];
        images = 0;
    }

    // ---- cells, settings, causes

    // Promise 2.
    public int cell(int cell, int what) {
        Icicle icicle = kept.icicle;
        if (!icicle.has(cell) || !within(what, 0, 2)) {
            return fail(BEYOND);
        }
        if (what == 0) {
            return icicle.wideAt(cell);
        }
        return what == 1 ? icicle.saltAt(cell) : icicle.standsOut(cell);
    }

    // Promise 3.
    public int shape(int cell, int what, int v) {
        Icicle icicle = kept.icicle;
        if (!icicle.has(cell) || !within(what, 0, 1) || !within(v, 0, what == 0 ? MOST_WIDE : MOST_SALT)) {
            return fail(BEYOND);
        }
        int[] row = what == 0 ? icicle.wides : icicle.salts;
        int was = row[cell];
        row[cell] = v;
        return was;
    }

    // Promise 4.
    public int cells(int sheet) {
        if (!isSheet(sheet)) {
            return fail(BEYOND);
        }
        Row numbers = sheets[sheet];
        if (numbers.isMissing()) {
            return fail(NONE);
        }
        Icicle icicle = kept.icicle;
        int most = Math.min(numbers.size, icicle.length);
        int taken = 0;
        while (taken < most && within(numbers.at(taken), 0, MOST_WIDE)) {
            icicle.wides[taken] = numbers.at(taken);
            taken++;
        }
        return taken;
    }

    // Promise 5.
    public int set(int what, int v) {
        if (!isSetting(what, v)) {
            return fail(BEYOND);
        }
        int was = kept.icicle.settings[what];
        kept.icicle.settings[what] = v;
        return was;
    }

    // Promise 6.
    public int cause(int kind, int m) {
        if (!within(kind, 0, KINDS - 1) || !within(m, 0, MOST_M)) {
            return fail(BEYOND);
        }
        Icicle icicle = kept.icicle;
        int number = icicle.causeCount;
        if (number >= MOST_CAUSES) {
            return fail(FULL);
        }
        icicle.causes[number] = newCause(kind, number, m);
        icicle.on = icicle.on | 1 << number;
        icicle.causeCount = number + 1;
        return number;
    }

    // Promise 7.
    public int ofCause(int cause, int what) {
        Cause one = causeAt(cause);
        if (one == null || !within(what, 0, 2)) {
            return fail(BEYOND);
        }
        if (what == 0) {
            return one.kind;
        }
        return what == 1 ? one.m : onOf(cause);
    }

    // Promise 8.
    public int as(int cause, int kind) {
        Cause one = causeAt(cause);
        if (one == null || !within(kind, 0, KINDS - 1)) {
            return fail(BEYOND);
        }
        return isOfKind(one, kind) ? one.m : fail(KIND);
    }

    // Promise 9.
    public int turn(int cause, int on) {
        if (causeAt(cause) == null || !within(on, 0, 1)) {
            return fail(BEYOND);
        }
        int was = onOf(cause);
        Icicle icicle = kept.icicle;
        icicle.on = icicle.on & ~(1 << cause) | on << cause;
        return was;
    }

    // Promise 10.
    public int freezes(int cause, int cell, int water, int salt) {
        Cause one = causeAt(cause);
        Icicle icicle = kept.icicle;
        if (one == null || !icicle.has(cell) || !within(water, 0, MOST_WATER) || !within(salt, 0, MOST_SALT)) {
            return fail(BEYOND);
        }
        icicle.feel(icicle.settings[WIND]);
        return one.freeze(icicle, cell, water, salt);
    }

    // ---- texts

    // Promise 11.
    public int feed(long word, int n) {
        if (!within(n, 1, 8)) {
            return fail(BEYOND);
        }
        Row tape = kept.tape;
        if (tape.size + n > MOST_TAPE) {
            return fail(FULL);
        }
        for (int i = 0; i < n; i++) {
            tape.add((int) (word >>> 8 * i) & 255);
        }
        return tape.size;
    }

    // Promise 12.
    public int text(int use) {
        if (!within(use, 0, USES - 1)) {
            return fail(BEYOND);
        }
        Text read = new Text();
        int fault = read.faultOf(kept.tape);
        kept.tape.clear();
        if (fault >= 0) {
            return -10 - fault;
        }
        kept.icicle.texts[use] = read;
        return 1;
    }

    // Promise 13.
    public int law(int use, int a, int b, int c) {
        return within(use, 0, USES - 1) ? kept.icicle.given(use, a, b, c) : fail(BEYOND);
    }

    // ---- ticks

    // Promise 14.
    public int ticks(int n) {
        if (!within(n, 1, MOST_GOING)) {
            return fail(BEYOND);
        }
        if (kept.icicle.now + n > MOST_NOW) {
            return fail(STATE);
        }
        kept.icicle.go(n);
        return kept.icicle.now;
    }

    // Promise 15.
    public int gusts(int n) {
        if (!within(n, 1, MOST_GOING)) {
            return fail(BEYOND);
        }
        if (kept.icicle.now + n > MOST_NOW) {
            return fail(STATE);
        }
        for (int i = 0; i < n; i++) {
            kept.icicle.pass(kept.drawn() % 100);
        }
        return kept.icicle.now;
    }

    // Promise 16.
    public int mass() {
        return kept.icicle.massOfAll();
    }

    // Promise 17.
    public int ring(int i) {
        if (i < -1) {
            return fail(BEYOND);
        }
        kept.icicle.ringsInto(ringsNow);
        if (i == -1) {
            return ringsNow.size;
        }
        return i < ringsNow.size ? ringsNow.at(i) : fail(NONE);
    }

    // Promise 18.
    public int apart() {
        int many = kept.icicle.ringsInto(ringsNow);
        if (many < 2) {
            return fail(NONE);
        }
        return (ringsNow.at(many - 1) - ringsNow.at(0)) / (many - 1);
    }

    // ---- ahead

    // Promise 19.
    public int then(int n, int what) {
        if (!isAhead(n) || !within(what, 0, 6)) {
            return fail(BEYOND);
        }
        goAhead(n);
        switch (what) {
            case 0:
                return ahead.length;
            case 1:
                return ahead.ringsInto(ringsThen);
            case 2:
                return ahead.massOfAll();
            case 3:
                return ahead.dripped;
            case 4:
                return ahead.drips;
            case 5:
                return ahead.wideAt(ahead.length - 1);
            default:
                return ahead.saltOfAll();
        }
    }

    // Promise 20.
    public int wide(int n, int cell) {
        if (!isAhead(n) || !within(cell, 0, MOST_CELLS - 1)) {
            return fail(BEYOND);
        }
        goAhead(n);
        return ahead.has(cell) ? ahead.wideAt(cell) : fail(NONE);
    }

    // Promise 21.
    public int pace(int n) {
        if (!isAhead(n)) {
            return fail(BEYOND);
        }
        int many = kept.icicle.ringsInto(ringsNow);
        goAhead(n);
        if (many == 0 || ahead.ringsInto(ringsThen) != many) {
            return fail(NONE);
        }
        return ringsThen.sum() - ringsNow.sum();
    }

    // Promise 22.
    public int needed(int n) {
        if (!isAhead(n)) {
            return fail(BEYOND);
        }
        goAhead(n);
        int many = ahead.ringsInto(ringsThen);
        int bits = 0;
        for (int i = 0; i < kept.icicle.causeCount; i++) {
            if (onOf(i) == 1 && ringsWithout(i, n) < many) {
                bits = bits | 1 << i;
            }
        }
        return bits;
    }

    private int ringsWithout(int cause, int n) {
        ahead.become(kept.icicle);
        ahead.on = ahead.on & ~(1 << cause);
        ahead.go(n);
        return ahead.ringsInto(ringsThen);
    }

    // Promise 23.
    public int little(int n, int r) {
        if (!isAhead(n) || !within(r, 0, MOST_CELLS)) {
            return fail(BEYOND);
        }
        for (int salty = SETTING_LEAST[SALTY]; salty <= SETTING_MOST[SALTY]; salty++) {
            ahead.become(kept.icicle);
            ahead.settings[SALTY] = salty;
            ahead.go(n);
            if (ahead.ringsInto(ringsThen) >= r) {
                return salty;
            }
        }
        return fail(NONE);
    }

    // Promise 24.
    public int breaks(int n) {
        if (!isAhead(n)) {
            return fail(BEYOND);
        }
        ahead.become(kept.icicle);
        int after = ahead.hangsNotAfter(n);
        return after >= 0 ? after : fail(NONE);
    }

    // Promise 25.
    public int falls(int n) {
        if (!isAhead(n)) {
            return fail(BEYOND);
        }
        for (int cold = SETTING_MOST[COLD]; cold >= SETTING_LEAST[COLD]; cold--) {
            ahead.become(kept.icicle);
            ahead.settings[COLD] = cold;
            if (ahead.hangsNotAfter(n) < 0) {
                return cold;
            }
        }
        return fail(NONE);
    }

    // ---- pictures, boxes

    // Promise 26.
    public int off(int sheet) {
        if (!isSheet(sheet)) {
            return fail(BEYOND);
        }
        return sheets[sheet].isMissing() ? fail(NONE) : kept.icicle.offBy(sheets[sheet]);
    }

    // Promise 27.
    public int made(int sheet, int n, int what) {
        if (!isSheet(sheet) || !isAhead(n) || !within(what, 0, 1)) {
            return fail(BEYOND);
        }
        if (sheets[sheet].isMissing()) {
            return fail(NONE);
        }
        int best = 0;
        int least = -1;
        int sets = 1 << kept.icicle.causeCount;
        for (int on = 0; on < sets; on++) {
            startAnew();
            ahead.on = on;
            ahead.go(n);
            int by = ahead.offBy(sheets[sheet]);
            if (least < 0 || by < least) {
                least = by;
                best = on;
            }
        }
        return what == 0 ? best : least;
    }

    // Promise 28.
    public int blown(int sheet, int n) {
        if (!isSheet(sheet) || !isAhead(n)) {
            return fail(BEYOND);
        }
        if (sheets[sheet].isMissing()) {
            return fail(NONE);
        }
        int best = 0;
        int least = -1;
        for (int wind = SETTING_LEAST[WIND]; wind <= SETTING_MOST[WIND]; wind++) {
            startAnew();
            ahead.settings[WIND] = wind;
            ahead.go(n);
            int by = ahead.offBy(sheets[sheet]);
            if (least < 0 || by < least) {
                least = by;
                best = wind;
            }
        }
        return best;
    }

    // Promise 29.
    public int box(int cold, int wind, int salty) {
        if (!isSetting(COLD, cold) || !isSetting(WIND, wind) || !isSetting(SALTY, salty)) {
            return fail(BEYOND);
        }
        int number = kept.boxCount();
        if (number >= MOST_BOXES) {
            return fail(FULL);
        }
        kept.boxes.add(cold);
        kept.boxes.add(wind);
        kept.boxes.add(salty);
        return number;
    }

    // Promise 30.
    public int tries(int n) {
        if (!isAhead(n)) {
            return fail(BEYOND);
        }
        if (kept.boxCount() == 0) {
            return fail(NONE);
        }
        int best = 0;
        int most = -1;
        for (int i = 0; i < kept.boxCount(); i++) {
            int pairs = unlikePairs(i, n);
            if (pairs > most) {
                most = pairs;
                best = i;
            }
        }
        return best;
    }

    private int unlikePairs(int box, int n) {
        int many = Math.min(kept.icicle.causeCount, MOST_CAUSES);
        int pairs = 0;
        for (int i = 0; i < many; i++) {
            startAnew();
            for (int part = 0; part < BOX_PARTS; part++) {
                ahead.settings[BOX_SETTING[part]] = kept.boxes.at(BOX_PARTS * box + part);
            }
            ahead.on = 1 << i;
            ahead.go(n);
            ahead.widesInto(grown[i]);
            for (int j = 0; j < i; j++) {
                pairs += grown[i].firstUnlike(grown[j]) < 0 ? 0 : 1;
            }
        }
        return pairs;
    }

    // ---- draws, voices, sheets, images, what is told

    // Promise 31.
    public int seed(int v) {
        int was = kept.z;
        kept.z = v;
        return was;
    }

    // Promise 32.
    public int voice(int cause, int act, int x) {
        Cause one = causeAt(cause);
        if (one == null || !within(act, 0, 3)) {
            return fail(BEYOND);
        }
        bodies.clear();
        switch (act) {
            case 0:
                return one.runs(x, bodies);
            case 1:
                return one.chills(x, bodies);
            case 2:
                return one.moves(x, bodies);
            default:
                return one.tells(x, bodies);
        }
    }

    // Promise 33.
    public int trace(int i) {
        return within(i, 0, bodies.size - 1) ? bodies.at(i) : fail(NONE);
    }

    // Promise 34.
    public int sheet(int sheet, int bits, int n) {
        if (!isSheet(sheet) || !isWidthOfSheet(bits)) {
            return fail(BEYOND);
        }
        if (bits != 0 && n < 0) {
            return fail(STATE);
        }
        if (bits != 0 && n > MOST_NUMBERS) {
            return fail(BEYOND);
        }
        sheets[sheet].reset(bits, bits == 0 ? 0 : n);
        return 1;
    }

    // Promise 35.
    public int put(int sheet, int i, int v) {
        if (!isSheet(sheet)) {
            return fail(BEYOND);
        }
        Row numbers = sheets[sheet];
        if (numbers.isMissing()) {
            return fail(NONE);
        }
        if (!within(i, 0, numbers.size - 1)) {
            return fail(BEYOND);
        }
        numbers.store(i, v);
        return 1;
    }

    // Promise 36.
    public int move(int sheet, int i, int other, int j, int n) {
        if (!isSheet(sheet) || !isSheet(other)) {
            return fail(BEYOND);
        }
        Row from = sheets[sheet];
        Row to = sheets[other];
        if (from.isMissing() || to.isMissing()) {
            return fail(NONE);
        }
        if (from.bits != to.bits) {
            return fail(KIND);
        }
        if (!from.spans(i, n) || !to.spans(j, n)) {
            return fail(BEYOND);
        }
        System.arraycopy(from.numbers, i, to.numbers, j, n);
        return n;
    }

    // Promise 37.
    public int draw(int sheet) {
        if (!isSheet(sheet)) {
            return fail(BEYOND);
        }
        Row numbers = sheets[sheet];
        if (numbers.isMissing()) {
            return fail(NONE);
        }
        int many = Math.min(numbers.size, kept.icicle.length);
        for (int i = 0; i < many; i++) {
            numbers.store(i, kept.icicle.wideAt(i));
        }
        return many;
    }

    // Promise 38.
    public int image() {
        imaged.become(kept);
        images++;
        return images;
    }

    // Promise 39.
    public int restore() {
        if (images == 0) {
            return fail(NONE);
        }
        kept.become(imaged);
        return kept.icicle.now;
    }

    // Promise 40.
    public int tell(int v) {
        if (kept.waiting.size >= MOST_WAITING) {
            return fail(FULL);
        }
        kept.waiting.add(v);
        return kept.waiting.size;
    }

    // Promise 41.
    public int check(int n) {
        if (!isAhead(n)) {
            kept.waiting.clear();
            return fail(BEYOND);
        }
        goAhead(n);
        ahead.ringsInto(ringsThen);
        int unlike = kept.waiting.firstUnlike(ringsThen);
        kept.waiting.clear();
        return 1 + unlike;
    }

    // Promise 42.
    public int count(int what) {
        Icicle icicle = kept.icicle;
        switch (what) {
            case 0:
                return icicle.now;
            case 1:
                return icicle.length;
            case 2:
                return icicle.causeCount;
            case 3:
                return kept.boxCount();
            case 4:
                return icicle.dripped;
            case 5:
                return icicle.drips;
            case 6:
                return kept.tape.size;
            case 7:
                return kept.waiting.size;
            case 8:
                return bodies.size;
            case 9:
                return kept.z;
            default:
                return fail(BEYOND);
        }
    }

    // Promise 43.
    public int told(int k) {
        return within(k, BEYOND, KIND) ? errors[k] : fail(BEYOND);
    }

    // ---- what the calls share

    private int fail(int error) {
        if (within(error, BEYOND, KIND)) {
            errors[error]++;
        }
        return LOW - error;
    }

    private static boolean within(int v, int least, int most) {
        return least <= v && v <= most;
    }

    private static boolean isAhead(int n) {
        return within(n, 0, MOST_AHEAD);
    }

    private static boolean isSheet(int sheet) {
        return within(sheet, 0, SHEETS - 1);
    }

    private static boolean isWidthOfSheet(int bits) {
        return bits == 0 || bits == 8 || bits == 16 || bits == 32;
    }

    private static boolean isSetting(int what, int v) {
        return within(what, 0, SETTINGS - 1) && within(v, SETTING_LEAST[what], SETTING_MOST[what]);
    }

    private Cause causeAt(int cause) {
        Icicle icicle = kept.icicle;
        return within(cause, 0, icicle.causeCount - 1) ? icicle.causes[cause] : null;
    }

    private int onOf(int cause) {
        return kept.icicle.on >> cause & 1;
    }

    private void goAhead(int n) {
        ahead.become(kept.icicle);
        ahead.go(n);
    }

    private void startAnew() {
        ahead.become(kept.icicle);
        ahead.begin();
    }

    private static Cause newCause(int kind, int number, int m) {
        switch (kind) {
            case 1:
                return new Tips(kind, number, m);
            case 2:
                return new Side(kind, number, m);
            case 3:
                return new Ringed(kind, number, m);
            case 4:
                return new Salted(kind, number, m);
            case 5:
                return new Leaning(kind, number, m);
            case 6:
                return new Forked(kind, number, m);
            default:
                return new Cause(kind, number, m);
        }
    }

    private static boolean isOfKind(Cause one, int kind) {
        switch (kind) {
            case 0:
                return true;
            case 1:
                return one instanceof Tips;
            case 2:
                return one instanceof Side;
            case 3:
                return one instanceof Ringed;
            case 4:
                return one instanceof Salted;
            case 5:
                return one instanceof Leaning;
            case 6:
                return one instanceof Forked;
            default:
                return false;
        }
    }

    /** Numbers in a row with an end: a SHEET (bits 0: it is missing), THE TAPE, THE TRACE, RINGS. */
    private static final class Row {
        final int[] numbers;
        int size;
        int bits;

        Row(int most, int bits) {
            this.numbers = new int[Math.max(most, 0)];
            this.size = 0;
            this.bits = bits;
        }

        boolean isMissing() {
            return bits == 0;
        }

        int at(int i) {
            return within(i, 0, size - 1) ? numbers[i] : 0;
        }

        void add(int v) {
            if (size < numbers.length) {
                numbers[size] = v;
                size++;
            }
        }

        /** Keeps the lowest bits alone, with a sign, as Java's byte, short and int do. */
        void store(int i, int v) {
            if (within(i, 0, size - 1)) {
                numbers[i] = bits == 8 ? (byte) v : bits == 16 ? (short) v : v;
            }
        }

        void clear() {
            size = 0;
        }

        void reset(int newBits, int newSize) {
            bits = newBits;
            size = Math.max(0, Math.min(newSize, numbers.length));
            Arrays.fill(numbers, 0);
        }

        boolean spans(int from, int many) {
            return from >= 0 && many >= 0 && from <= size && many <= size - from;
        }

        int sum() {
            int all = 0;
            for (int i = 0; i < size; i++) {
                all += numbers[i];
            }
            return all;
        }

        /** The first place at which the rows differ or one of them has ended; -1: they are alike. */
        int firstUnlike(Row other) {
            int both = Math.min(size, other.size);
            for (int i = 0; i < both; i++) {
                if (numbers[i] != other.numbers[i]) {
                    return i;
                }
            }
            return size == other.size ? -1 : both;
        }

        void become(Row other) {
            size = Math.min(other.size, numbers.length);
            System.arraycopy(other.numbers, 0, numbers, 0, size);
        }
    }

    /** A TEXT as steps in the order in which they are worked out: numbers as they are, signs and NAMES below 0. */
    private static final class Text {
        private final int[] steps = new int[MOST_TAPE];
        private final int[] stack = new int[MOST_TAPE];
        private int size = 0;
        private int place = 0;
        private int top = 0;

        /** The FAULT, -1 if there is none. Whenever a part can't go on, place stands at the byte to blame. */
        int faultOf(Row tape) {
            size = 0;
            place = 0;
            return anyOf(tape, 0) && place == tape.size ? -1 : place;
        }

        private boolean anyOf(Row tape, int open) {
            boolean goes = allOf(tape, open);
            for (int i = 0; i < MOST_TAPE && goes && sees(tape, '|'); i++) {
                place++;
                goes = allOf(tape, open);
                step(-'|');
            }
            return goes;
        }

        private boolean allOf(Row tape, int open) {
            boolean goes = compared(tape, open);
            for (int i = 0; i < MOST_TAPE && goes && sees(tape, '&'); i++) {
                place++;
                goes = compared(tape, open);
                step(-'&');
            }
            return goes;
        }

        private boolean compared(Row tape, int open) {
            boolean goes = sum(tape, open);
            if (goes && (sees(tape, '<') || sees(tape, '=') || sees(tape, '>'))) {
                int sign = tape.at(place);
                place++;
                goes = sum(tape, open);
                step(-sign);
            }
            return goes;
        }

        private boolean sum(Row tape, int open) {
            boolean goes = product(tape, open);
            for (int i = 0; i < MOST_TAPE && goes && (sees(tape, '+') || sees(tape, '-')); i++) {
                int sign = tape.at(place);
                place++;
                goes = product(tape, open);
                step(-sign);
            }
            return goes;
        }

        private boolean product(Row tape, int open) {
            boolean goes = single(tape, open);
            for (int i = 0; i < MOST_TAPE && goes && seesTimes(tape); i++) {
                int sign = tape.at(place);
                place++;
                goes = single(tape, open);
                step(-sign);
            }
            return goes;
        }

        private boolean single(Row tape, int open) {
            if (seesDigit(tape)) {
                number(tape);
                return true;
            }
            if (sees(tape, 't') || sees(tape, 'w') || sees(tape, 'c')) {
                step(-tape.at(place));
                place++;
                return true;
            }
            if (open >= MOST_OPEN) {
                return false;
            }
            if (sees(tape, '!')) {
                place++;
                boolean goes = single(tape, open + 1);
                step(-'!');
                return goes;
            }
            return sees(tape, '(') && inside(tape, open + 1);
        }

        private boolean inside(Row tape, int open) {
            place++;
            if (!anyOf(tape, open) || !sees(tape, ')')) {
                return false;
            }
            place++;
            return true;
        }

        private void number(Row tape) {
            int v = 0;
            for (int i = 0; i < MOST_DIGITS && seesDigit(tape); i++) {
                v = v * 10 + tape.at(place) - '0';
                place++;
            }
            step(v);
        }

        private boolean sees(Row tape, int sign) {
            return place < tape.size && tape.at(place) == sign;
        }

        private boolean seesTimes(Row tape) {
            return sees(tape, '*') || sees(tape, '/') || sees(tape, '%');
        }

        private boolean seesDigit(Row tape) {
            return place < tape.size && within(tape.at(place), '0', '9');
        }

        private void step(int v) {
            if (size < steps.length) {
                steps[size] = v;
                size++;
            }
        }

        int value(int t, int w, int c) {
            top = 0;
            for (int i = 0; i < size; i++) {
                int sign = -steps[i];
                if (sign <= 0) {
                    push(steps[i]);
                } else if (sign == 't') {
                    push(t);
                } else if (sign == 'w') {
                    push(w);
                } else if (sign == 'c') {
                    push(c);
                } else if (sign == '!') {
                    push(pop() == 0 ? 1 : 0);
                } else {
                    int right = pop();
                    push(worked(sign, pop(), right));
                }
            }
            return pop();
        }

        private void push(int v) {
            if (top < stack.length) {
                stack[top] = v;
                top++;
            }
        }

        private int pop() {
            if (top <= 0) {
                return 0;
            }
            top--;
            return stack[top];
        }

        private static int worked(int sign, int a, int b) {
            switch (sign) {
                case '+':
                    return a + b;
                case '-':
                    return a - b;
                case '*':
                    return a * b;
                case '/':
                    return b == 0 ? 0 : a / b;
                case '%':
                    return b == 0 ? 0 : a % b;
                case '<':
                    return a < b ? 1 : 0;
                case '=':
                    return a == b ? 1 : 0;
                case '>':
                    return a > b ? 1 : 0;
                case '&':
                    return a != 0 && b != 0 ? 1 : 0;
                default:
                    return a != 0 || b != 0 ? 1 : 0;
            }
        }
    }

    /** The CELLS with all by which TICKS change them. */
    private static final class Icicle {
        final int[] wides = new int[MOST_CELLS];
        final int[] salts = new int[MOST_CELLS];
        final int[] settings = new int[SETTINGS];
        final Cause[] causes = new Cause[MOST_CAUSES];
        final Text[] texts = new Text[USES];
        int length;
        int now;
        int dripped;
        int drips;
        int causeCount;
        /** Bit i: CAUSE i is on. */
        int on;
        /** COLD and WIND of the TICK at hand. */
        int cold;
        int wind;

        Icicle() {
            System.arraycopy(SETTING_FIRST, 0, settings, 0, SETTINGS);
            begin();
        }

        /** ONE CELL as at first, at TICK 0. */
        void begin() {
            wides[0] = FIRST_WIDE;
            salts[0] = 0;
            length = 1;
            now = 0;
            dripped = 0;
            drips = 0;
        }

        void become(Icicle other) {
            length = other.length;
            now = other.now;
            dripped = other.dripped;
            drips = other.drips;
            causeCount = other.causeCount;
            on = other.on;
            System.arraycopy(other.wides, 0, wides, 0, MOST_CELLS);
            System.arraycopy(other.salts, 0, salts, 0, MOST_CELLS);
            System.arraycopy(other.settings, 0, settings, 0, SETTINGS);
            for (int i = 0; i < MOST_CAUSES; i++) {
                causes[i] = other.causes[i];
            }
            for (int i = 0; i < USES; i++) {
                texts[i] = other.texts[i];
            }
        }

        boolean has(int cell) {
            return within(cell, 0, length - 1);
        }

        int wideAt(int cell) {
            return has(cell) ? wides[cell] : 0;
        }

        int saltAt(int cell) {
            return has(cell) ? salts[cell] : 0;
        }

        int standsOut(int cell) {
            if (cell < 0 || cell >= length) {
                return 0;
            }
            int own = wides[cell];
            int above = cell > 0 ? wides[cell - 1] : own;
            int below = cell + 1 < length ? wides[cell + 1] : own;
            return 2 * own - above - below;
        }

        /** What a USE gives, its NAMES being t, w, c. */
        int given(int use, int t, int w, int c) {
            if (!within(use, 0, USES - 1)) {
                return 0;
            }
            int setting = USE_SETTING[use];
            Text law = texts[use];
            if (law == null) {
                return settings[setting];
            }
            return Math.max(SETTING_LEAST[setting], Math.min(law.value(t, w, c), SETTING_MOST[setting]));
        }

        /** COLD and WIND are those of the TICK that NOW is. */
        void feel(int windNow) {
            cold = given(USE_COLD, now, settings[WATER], settings[COLD]);
            wind = windNow;
        }

        void go(int n) {
            for (int i = 0; i < n; i++) {
                pass(settings[WIND]);
            }
        }

        /** One TICK goes by. Where no water comes nothing changes, so the CELLS below are left out then. */
        void pass(int windNow) {
            feel(windNow);
            int water = given(USE_WATER, now, settings[WATER], settings[COLD]);
            int salt = water * settings[SALTY];
            for (int i = 0; i < length && water > 0; i++) {
                int frozen = Math.max(0, Math.min(frozenAt(i, water, salt), water));
                int stays = (int) ((long) salt * frozen / (2L * water));
                wides[i] = Math.min(wides[i] + frozen, MOST_WIDE);
                salts[i] = Math.min(salts[i] + stays, MOST_SALT);
                water -= frozen;
                salt -= stays;
            }
            leave(water, salt);
            now++;
        }

        private int frozenAt(int cell, int water, int salt) {
            int all = 0;
            for (int i = 0; i < causeCount; i++) {
                Cause one = causes[i];
                if ((on >> i & 1) == 1 && one != null) {
                    all += one.freeze(this, cell, water, salt);
                }
            }
            return all;
        }

        private void leave(int water, int salt) {
            if (water == 0) {
                return;
            }
            if (water >= settings[DROP] || length >= MOST_CELLS) {
                dripped += water;
                drips++;
                return;
            }
            wides[length] = Math.min(water, MOST_WIDE);
            salts[length] = Math.min(salt, MOST_SALT);
            length++;
        }

        int saltOfAll() {
            int all = 0;
            for (int i = 0; i < length; i++) {
                all += salts[i];
            }
            return all;
        }

        int massOfAll() {
            int all = 0;
            for (int i = 0; i < length; i++) {
                all += wides[i];
            }
            return all + saltOfAll() / 1000;
        }

        /** After how many TICKS (n at most) it doesn't HANG for the first time; -1: it always does. */
        int hangsNotAfter(int n) {
            for (int i = 0; i <= n; i++) {
                if (massOfAll() > settings[BEARS]) {
                    return i;
                }
                if (i < n) {
                    pass(settings[WIND]);
                }
            }
            return -1;
        }

        int ringsInto(Row rings) {
            rings.clear();
            for (int i = 0; i < length; i++) {
                int out = standsOut(i);
                boolean overAbove = i == 0 || standsOut(i - 1) < out;
                boolean overBelow = i == length - 1 || standsOut(i + 1) < out;
                if (out > 0 && overAbove && overBelow) {
                    rings.add(i);
                }
            }
            return rings.size;
        }

        void widesInto(Row row) {
            row.clear();
            for (int i = 0; i < length; i++) {
                row.add(wides[i]);
            }
        }

        int offBy(Row picture) {
            int most = Math.max(length, picture.size);
            int all = 0;
            for (int i = 0; i < most; i++) {
                long apart = Math.abs((long) wideAt(i) - picture.at(i));
                all += (int) Math.min(apart, MOST_OFF);
            }
            return all;
        }
    }

    /** All that an IMAGE keeps. */
    private static final class Kept {
        final Icicle icicle = new Icicle();
        final Row tape = new Row(MOST_TAPE, 32);
        final Row waiting = new Row(MOST_WAITING, 32);
        /** COLD, WIND, SALTY of BOX after BOX. */
        final Row boxes = new Row(MOST_BOXES * BOX_PARTS, 32);
        int z = 1;

        int boxCount() {
            return boxes.size / BOX_PARTS;
        }

        int drawn() {
            z = z * 1103515245 + 12345;
            return z >>> 8;
        }

        void become(Kept other) {
            icicle.become(other.icicle);
            tape.become(other.tape);
            waiting.become(other.waiting);
            boxes.become(other.boxes);
            z = other.z;
        }
    }

    /** A CAUSE of KIND 0; the other KINDS are under it as the document has them, BODIES with their numbers. */
    private static class Cause {
        final int kind;
        final int number;
        final int m;

        Cause(int kind, int number, int m) {
            this.kind = kind;
            this.number = number;
            this.m = m;
        }

        int freeze(Icicle icicle, int cell, int water, int salt) {
            return m * icicle.cold / 100;
        }

        int runs(int x, Row bodies) {
            bodies.add(10);
            return x + number;
        }

        int chills(int x, Row bodies) {
            bodies.add(11);
            return runs(x, bodies) * 2;
        }

        int moves(int x, Row bodies) {
            bodies.add(12);
            return x - m;
        }

        int tells(int x, Row bodies) {
            bodies.add(13);
            return chills(x, bodies) ^ moves(x, bodies);
        }
    }

    private static class Tips extends Cause {
        Tips(int kind, int number, int m) {
            super(kind, number, m);
        }

        int freeze(Icicle icicle, int cell, int water, int salt) {
            return cell == icicle.length - 1 ? 10 * super.freeze(icicle, cell, water, salt) : 0;
        }

        int chills(int x, Row bodies) {
            bodies.add(20);
            return super.chills(x, bodies) - moves(1, bodies);
        }
    }

    private static class Side extends Cause {
        Side(int kind, int number, int m) {
            super(kind, number, m);
        }

        /** A CAUSE's quotient stands here again: a call for it would be one deeper for each KIND under this. */
        int freeze(Icicle icicle, int cell, int water, int salt) {
            return m * icicle.cold / 100 * (10 + icicle.wind) / 10;
        }

        int runs(int x, Row bodies) {
            bodies.add(30);
            return super.runs(x, bodies) * 3;
        }
    }

    private static class Ringed extends Side {
        Ringed(int kind, int number, int m) {
            super(kind, number, m);
        }

        int freeze(Icicle icicle, int cell, int water, int salt) {
            return super.freeze(icicle, cell, water, salt) + m * icicle.standsOut(cell) / 100;
        }

        int moves(int x, Row bodies) {
            bodies.add(40);
            return -super.moves(x, bodies);
        }

        int runs(int x, Row bodies) {
            bodies.add(41);
            return super.runs(x + 1, bodies);
        }
    }

    private static final class Salted extends Ringed {
        Salted(int kind, int number, int m) {
            super(kind, number, m);
        }

        int freeze(Icicle icicle, int cell, int water, int salt) {
            return super.freeze(icicle, cell, water, salt) - m * salt / Math.max(water, 1);
        }

        int tells(int x, Row bodies) {
            bodies.add(50);
            return super.tells(x, bodies) - runs(2, bodies);
        }
    }

    private static final class Leaning extends Cause {
        Leaning(int kind, int number, int m) {
            super(kind, number, m);
        }

        int freeze(Icicle icicle, int cell, int water, int salt) {
            int plain = super.freeze(icicle, cell, water, salt);
            return icicle.wind > 20 && cell % 2 == 1 ? 2 * plain : plain;
        }

        int moves(int x, Row bodies) {
            bodies.add(60);
            return super.moves(x, bodies) ^ number;
        }
    }

    private static final class Forked extends Tips {
        Forked(int kind, int number, int m) {
            super(kind, number, m);
        }

        int freeze(Icicle icicle, int cell, int water, int salt) {
            boolean forks = cell == icicle.length - 1 && icicle.now % 7 == 0;
            return super.freeze(icicle, cell, water, salt) + (forks ? m : 0);
        }

        int chills(int x, Row bodies) {
            bodies.add(70);
            return super.chills(x, bodies) + m;
        }

        int tells(int x, Row bodies) {
            bodies.add(71);
            return chills(x, bodies) - super.tells(x, bodies);
        }
    }
}
