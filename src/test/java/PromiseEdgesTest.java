/** The sentences of the promises 1 to 43 that name a boundary or an ERROR, each with a test of its own. */
public final class PromiseEdgesTest {
    private static final int BEYOND = Checks.BEYOND;
    private static final int NONE = Checks.NONE;
    private static final int STATE = Checks.STATE;
    private static final int FULL = Checks.FULL;
    private static final int KIND = Checks.KIND;
    private static final int MIN = Integer.MIN_VALUE;
    private static final int MAX = Integer.MAX_VALUE;

    private static void says(String where, String words) {
        Checks.says(where, words);
    }

    private static void due(String what, long got, long want) {
        Checks.due(what, got, want);
    }

    private static IcicleRings icicle(int... wides) {
        return Checks.icicle(wides);
    }

    private static void picture(IcicleRings x, int sheet, int... numbers) {
        Checks.picture(x, sheet, numbers);
    }

    // ---- cells, settings, causes

    private static void newObject() {
        says("1", "All as at first; ONE CELL, no CAUSES, BOXES.");
        IcicleRings x = new IcicleRings();
        int[] counts = {0, 1, 0, 0, 0, 0, 0, 0, 0, 1};
        for (int i = 0; i < 10; i++) {
            due("count " + i, x.count(i), counts[i]);
        }
        for (int k = 1; k <= 5; k++) {
            due("told " + k, x.told(k), 0);
        }
        due("WIDE", x.cell(0, 0), 10);
        due("SALT", x.cell(0, 1), 0);
        due("one CELL", x.cell(1, 0), BEYOND);
        due("no CAUSES", x.ofCause(0, 0), BEYOND);
        due("no BOXES", x.tries(0), NONE);
        due("no IMAGE", x.restore(), NONE);
        IcicleRings used = new IcicleRings();
        used.cause(1, 1);
        used.set(0, 1);
        used.ticks(9);
        due("another object is untouched", new IcicleRings().count(1) + new IcicleRings().count(2), 1);
    }

    private static void cells() {
        says("2", "Of a CELL: 0 WIDE, 1 SALT, 2 what it STANDS OUT. BEYOND.");
        IcicleRings x = icicle(10, 40, 10);
        x.shape(2, 1, 7);
        due("the last CELL's WIDE", x.cell(2, 0), 10);
        due("the last CELL's SALT", x.cell(2, 1), 7);
        due("what the last CELL STANDS OUT", x.cell(2, 2), -30);
        for (int cell : new int[] {-1, 3, 39, 40, MIN, MAX}) {
            due("no CELL " + cell, x.cell(cell, 0), BEYOND);
        }
        for (int what : new int[] {-1, 3, MIN, MAX}) {
            due("no what " + what, x.cell(0, what), BEYOND);
        }

        says("3", "WIDE (what 0), SALT (1) of a CELL becomes v: what it was. BEYOND.");
        IcicleRings y = icicle(10, 20);
        due("most WIDE", y.shape(1, 0, 99999), 20);
        due("least WIDE", y.shape(1, 0, 0), 99999);
        due("most SALT", y.shape(1, 1, 999999), 0);
        due("least SALT", y.shape(1, 1, 0), 999999);
        due("SALT may be more than most WIDE", y.shape(1, 1, 100000), 0);
        due("it was 0", y.shape(1, 0, 5), 0);
        for (int v : new int[] {-1, 100000, MIN, MAX}) {
            due("WIDE " + v, y.shape(0, 0, v), BEYOND);
        }
        for (int v : new int[] {-1, 1000000, MIN, MAX}) {
            due("SALT " + v, y.shape(0, 1, v), BEYOND);
        }
        for (int what : new int[] {-1, 2, MIN, MAX}) {
            due("no what " + what, y.shape(0, what, 1), BEYOND);
        }
        for (int cell : new int[] {-1, 2, MIN, MAX}) {
            due("no CELL " + cell, y.shape(cell, 0, 1), BEYOND);
        }
        due("CELL 0 stays", y.cell(0, 0) + y.cell(0, 1), 10);

        says("4", "WIDE of CELLS from 0 on becomes as a SHEET's numbers are, up to the first that isn't 0 to 99999, or of no CELL: "
            + "how many.");
        IcicleRings z = icicle(1, 2, 3);
        picture(z, 0);
        due("no numbers", z.cells(0), 0);
        picture(z, 0, 99999);
        due("fewer than CELLS", z.cells(0), 1);
        due("the most", z.cell(0, 0), 99999);
        due("the next stays", z.cell(1, 0), 2);
        picture(z, 0, 0, 100000, 5);
        due("up to one too great", z.cells(0), 1);
        due("0", z.cell(0, 0), 0);
        due("the next stays", z.cell(1, 0), 2);
        due("the one after it stays", z.cell(2, 0), 3);
        picture(z, 0, 7, 8, -1);
        due("up to one below 0", z.cells(0), 2);
        due("the last stays", z.cell(2, 0), 3);
        picture(z, 0, -1);
        due("none", z.cells(0), 0);
        picture(z, 0, MIN);
        due("none", z.cells(0), 0);
        picture(z, 0, 4, 5, 6, 7);
        due("up to one of no CELL", z.cells(0), 3);
        due("the last", z.cell(2, 0), 6);
        due("no CELL more", z.count(1), 3);
        z.shape(0, 1, 9);
        z.cells(0);
        due("SALT stays", z.cell(0, 1), 9);

        says("4", "BEYOND: no such SHEET. NONE: it is missing.");
        for (int sheet : new int[] {-1, 4, MIN, MAX}) {
            due("no SHEET " + sheet, z.cells(sheet), BEYOND);
        }
        due("missing", z.cells(1), NONE);
        z.sheet(0, 0, 0);
        due("missing again", z.cells(0), NONE);
    }

    private static void settingsAndCauses() {
        says("5", "A SETTING becomes v: what it was. BEYOND.");
        IcicleRings x = new IcicleRings();
        for (int what : new int[] {-1, 6, MIN, MAX}) {
            due("no SETTING " + what, x.set(what, 1), BEYOND);
        }
        int[][] ends = {{0, 9999}, {0, 99}, {-50, 99}, {0, 99}, {1, 999}, {0, 9999999}};
        for (int what = 0; what < 6; what++) {
            x.set(what, ends[what][0]);
            due("what it was", x.set(what, ends[what][1]), ends[what][0]);
            due("too small", x.set(what, ends[what][0] - 1), BEYOND);
            due("too great", x.set(what, ends[what][1] + 1), BEYOND);
        }
        for (int what = 0; what < 6; what++) {
            due("each its own", x.set(what, ends[what][0]), ends[what][1]);
        }

        says("6", "A CAUSE: its number. BEYOND. FULL.");
        IcicleRings y = new IcicleRings();
        due("KIND -1", y.cause(-1, 0), BEYOND);
        due("KIND 7", y.cause(7, 0), BEYOND);
        due("KIND far", y.cause(MIN, 0), BEYOND);
        due("m -1", y.cause(0, -1), BEYOND);
        due("m 100", y.cause(0, 100), BEYOND);
        for (int i = 0; i < 6; i++) {
            due("the next number", y.cause(6 - i, 99 * (i % 2)), i);
        }
        due("full", y.cause(6, 99), FULL);
        due("still six", y.count(2), 6);

        says("7", "Of a CAUSE: 0 KIND, 1 m, 2 1 if it is on, else 0. BEYOND.");
        for (int i = 0; i < 6; i++) {
            due("KIND", y.ofCause(i, 0), 6 - i);
            due("m", y.ofCause(i, 1), 99 * (i % 2));
            due("on", y.ofCause(i, 2), 1);
            y.turn(i, 0);
            due("off", y.ofCause(i, 2), 0);
        }
        for (int cause : new int[] {-1, 6, 31, 32, MIN, MAX}) {
            due("no CAUSE " + cause, y.ofCause(cause, 0), BEYOND);
        }
        for (int what : new int[] {-1, 3, MIN, MAX}) {
            due("no what " + what, y.ofCause(0, what), BEYOND);
        }

        says("9", "A CAUSE is on (1), off (0): what it was. BEYOND.");
        due("it was off", y.turn(5, 0), 0);
        due("it was off", y.turn(5, 1), 0);
        due("it was on", y.turn(5, 1), 1);
        due("the one beside it stays off", y.ofCause(4, 2), 0);
        for (int on : new int[] {-1, 2, MIN, MAX}) {
            due("on " + on, y.turn(5, on), BEYOND);
        }
        for (int cause : new int[] {-1, 6, 31, 32, 37, MIN, MAX}) {
            due("no CAUSE " + cause, y.turn(cause, 0), BEYOND);
        }
        due("it stays on", y.turn(5, 0), 1);
    }

    private static void asKinds() {
        says("8", "A CAUSE as one of a KIND: m. BEYOND.");
        IcicleRings x = new IcicleRings();
        due("none yet", x.as(0, 0), BEYOND);
        for (int i = 1; i <= 6; i++) {
            x.cause(i, 99 - i);
        }
        for (int kind : new int[] {-1, 7, MIN, MAX}) {
            due("no KIND " + kind, x.as(0, kind), BEYOND);
        }
        for (int cause : new int[] {-1, 6, MIN, MAX}) {
            due("no CAUSE " + cause, x.as(cause, 0), BEYOND);
        }
        for (int i = 1; i <= 6; i++) {
            due("as its own", x.as(i - 1, i), 99 - i);
            due("as a CAUSE", x.as(i - 1, 0), 99 - i);
        }

        says("8", "KIND: it isn't of that KIND, nor of one under it.");
        int[][] are = {{3, 2}, {4, 3}, {4, 2}, {6, 1}};
        for (int[] a : are) {
            due("KIND " + a[0] + " as " + a[1], x.as(a[0] - 1, a[1]), 99 - a[0]);
        }
        int[][] not = {{2, 3}, {3, 4}, {2, 4}, {1, 6}, {1, 2}, {2, 1}, {5, 1}, {5, 2}, {1, 5}, {6, 5}, {6, 2}, {3, 1}, {4, 5}};
        for (int[] a : not) {
            due("KIND " + a[0] + " as " + a[1], x.as(a[0] - 1, a[1]), KIND);
        }
        IcicleRings y = new IcicleRings();
        y.cause(0, 0);
        due("m 0", y.as(0, 0), 0);
        for (int kind = 1; kind < 7; kind++) {
            due("a CAUSE as KIND " + kind, y.as(0, kind), KIND);
        }
    }

    private static void freezes() {
        says("10", "FREEZES of a CAUSE at a CELL with so much water and salt (0 to 999999 each); may be below 0. BEYOND.");
        IcicleRings x = icicle(10, 10);
        due("no CAUSE yet", x.freezes(0, 0, 0, 0), BEYOND);
        x.cause(4, 99);
        due("least of both", x.freezes(0, 0, 0, 0), 19);
        due("most of both", x.freezes(0, 0, 999999, 999999), 19 - 99);
        due("most water", x.freezes(0, 1, 999999, 0), 19);
        due("most salt: below 0", x.freezes(0, 1, 0, 999999), 19 - 98999901);
        for (int v : new int[] {-1, 1000000, MIN, MAX}) {
            due("water " + v, x.freezes(0, 0, v, 0), BEYOND);
            due("salt " + v, x.freezes(0, 0, 0, v), BEYOND);
        }
        for (int cell : new int[] {-1, 2, 40, MIN, MAX}) {
            due("no CELL " + cell, x.freezes(0, cell, 0, 0), BEYOND);
        }
        for (int cause : new int[] {-1, 1, 6, MIN, MAX}) {
            due("no CAUSE " + cause, x.freezes(cause, 0, 0, 0), BEYOND);
        }
        x.turn(0, 0);
        due("off or on", x.freezes(0, 0, 0, 0), 19);
        due("nothing froze", x.cell(0, 0), 10);
    }

    // ---- texts

    private static void feed() {
        says("11", "The n lowest bytes (1 .. 8) of a word, the lowest first, come to THE TAPE: how many there are.");
        IcicleRings x = new IcicleRings();
        due("1 byte", x.feed(0x3939393939393974L, 1), 1);
        due("t alone", x.text(1), 1);
        due("t alone", x.law(1, 7, 0, 0), 7);
        due("8 bytes", x.feed(0x312B312B312D3938L, 8), 8);
        due("the lowest first", x.text(1), 1);
        // 89-1+1+1
        due("the lowest first", x.law(1, 0, 0, 0), 90);
        due("8 bytes of a word below 0", x.feed(-1L, 8), 8);
        due("one more", x.feed(0L, 1), 9);
        x.text(0);
        due("the highest byte", x.feed(0xFF00000000000031L, 8), 8);
        due("a byte 0 is no end", x.text(0), -11);
        x.feed(0x7431L, 1);
        due("how many in all", x.feed(0x742BL, 2), 3);
        due("1+t", x.text(0), 1);
        due("1+t", x.law(0, 6, 0, 0), 7);

        says("11", "BEYOND. FULL.");
        IcicleRings y = new IcicleRings();
        for (int n : new int[] {0, -1, 9, MIN, MAX}) {
            due("n " + n, y.feed(0, n), BEYOND);
        }
        for (int i = 0; i < 6; i++) {
            y.feed(0x2B312B312B312B31L, 8);
        }
        due("3 more are too many", y.feed('1', 3), FULL);
        due("none of them came", y.count(6), 48);
        due("2 more", y.feed('1' + ('2' << 8), 2), 50);
        due("1 more is too many", y.feed('1', 1), FULL);
        due("8 more are too many", y.feed('1', 8), FULL);
        due("it is as it was", y.text(0), 1);
        due("there is room again", y.feed(0, 8), 8);
    }

    private static void text() {
        says("12", "THE TAPE, which is empty then, is the TEXT of a USE (0, 1), in place of one ahead: 1.");
        IcicleRings x = new IcicleRings();
        due("USE 0", Checks.textOf(x, 0, "5"), 1);
        due("empty then", x.count(6), 0);
        due("not of USE 1", x.law(1, 0, 0, 0), 20);
        due("USE 1", Checks.textOf(x, 1, "6"), 1);
        due("USE 0 stays", x.law(0, 0, 0, 0), 5);
        due("in place", Checks.textOf(x, 0, "7"), 1);
        due("in place", x.law(0, 0, 0, 0), 7);
        due("USE 1 stays", x.law(1, 0, 0, 0), 6);

        says("12", "BEYOND (THE TAPE stays).");
        Checks.feed(x, "8");
        for (int use : new int[] {-1, 2, MIN, MAX}) {
            due("USE " + use, x.text(use), BEYOND);
            due("THE TAPE stays", x.count(6), 1);
        }
        due("as it was", x.text(0), 1);
        due("as it was", x.law(0, 0, 0, 0), 8);
        due("BEYOND without a TAPE", x.text(2), BEYOND);

        says("12", "-10 less the FAULT (no ERROR; the one ahead stays).");
        int told = x.told(1) + x.told(2) + x.told(3) + x.told(4) + x.told(5);
        due("FAULT 0", x.text(0), -10);
        due("FAULT 0", Checks.textOf(x, 0, "x"), -10);
        due("FAULT 1", Checks.textOf(x, 0, "1)"), -11);
        due("FAULT 3", Checks.textOf(x, 0, "(9("), -12);
        due("empty then", x.count(6), 0);
        due("the one ahead stays", x.law(0, 0, 0, 0), 8);
        due("no ERROR", x.told(1) + x.told(2) + x.told(3) + x.told(4) + x.told(5), told);
        IcicleRings y = new IcicleRings();
        due("a FAULT, none ahead", Checks.textOf(y, 0, "1+"), -12);
        due("none still", y.law(0, 1, 2, 3), 200);

        says("13", "What a USE gives with its NAMES in order as a, b, c (without a TEXT: the SETTING). BEYOND.");
        due("without a TEXT", y.law(0, MIN, MAX, 0), 200);
        y.set(2, -50);
        due("without a TEXT", y.law(1, MIN, MAX, 0), -50);
        Checks.textOf(y, 0, "t*100+w*10+c");
        due("in order", y.law(0, 1, 2, 3), 123);
        due("too small", y.law(0, -1, 2, 3), 0);
        due("too great", y.law(0, 100, 2, 3), 9999);
        due("NOW and the SETTINGS don't matter", y.law(0, 0, 0, 0), 0);
        for (int use : new int[] {-1, 2, MIN, MAX}) {
            due("USE " + use, y.law(use, 0, 0, 0), BEYOND);
        }
    }

    // ---- ticks

    private static void ticks() {
        says("14", "n (1 to 100) TICKS go by: NOW. BEYOND: n. STATE: it would be above 9999.");
        IcicleRings x = new IcicleRings();
        due("1", x.ticks(1), 1);
        due("100", x.ticks(100), 101);
        for (int n : new int[] {0, -1, 101, MIN, MAX}) {
            due("n " + n, x.ticks(n), BEYOND);
        }
        due("each dripped", x.count(5), 101);
        Checks.toTick(x, 9900);
        due("100 more are too many", x.ticks(100), STATE);
        due("none went by", x.count(5), 9900);
        due("99 more", x.ticks(99), 9999);
        due("1 more is too many", x.ticks(1), STATE);
        due("0 more is BEYOND", x.ticks(0), BEYOND);
        due("NOW stays", x.count(0), 9999);

        says("15", "n (1 to 100) GUSTY TICKS go by: NOW. BEYOND, STATE likewise.");
        due("1 more is too many", x.gusts(1), STATE);
        due("0 more is BEYOND", x.gusts(0), BEYOND);
        due("101 more is BEYOND", x.gusts(101), BEYOND);
        due("none was drawn", x.count(9), 1);
        IcicleRings y = new IcicleRings();
        due("1", y.gusts(1), 1);
        due("100", y.gusts(100), 101);
        for (int n : new int[] {0, -1, 101, MIN, MAX}) {
            due("n " + n, y.gusts(n), BEYOND);
        }
        int z = 1;
        for (int i = 0; i < 101; i++) {
            z = z * 1103515245 + 12345;
        }
        due("a draw each", y.count(9), z);
        Checks.toTick(y, 9900);
        due("100 more are too many", y.gusts(100), STATE);
        due("none was drawn", y.count(9), z);
        due("99 more", y.gusts(99), 9999);
    }

    private static void rings() {
        says("16", "MASS.");
        IcicleRings m = new IcicleRings();
        m.shape(0, 0, 0);
        due("0", m.mass(), 0);
        m.shape(0, 1, 999);
        due("SALT 999", m.mass(), 0);
        m.shape(0, 1, 999999);
        due("SALT 999999", m.mass(), 999);

        says("17", "RINGS: i -1 how many, else the i-th (from the roof). BEYOND: i below -1. NONE: there are not so many.");
        IcicleRings x = icicle(10, 40, 10, 30);
        due("how many", x.ring(-1), 2);
        due("the first", x.ring(0), 1);
        due("the last", x.ring(1), 3);
        due("not so many", x.ring(2), NONE);
        due("not so many", x.ring(40), NONE);
        due("not so many", x.ring(MAX), NONE);
        due("below", x.ring(-2), BEYOND);
        due("far below", x.ring(MIN), BEYOND);
        due("none", new IcicleRings().ring(-1), 0);
        due("no first", new IcicleRings().ring(0), NONE);
        int[] zigzag = new int[40];
        for (int i = 1; i < 40; i += 2) {
            zigzag[i] = 9;
        }
        due("the most", icicle(zigzag).ring(-1), 20);
        due("the last of the most", icicle(zigzag).ring(19), 39);

        says("18", "APART. NONE.");
        due("none", new IcicleRings().apart(), NONE);
        due("one", icicle(0, 9).apart(), NONE);
        due("two", icicle(9, 0, 9).apart(), 2);
        due("the most", icicle(zigzag).apart(), 2);
        IcicleRings far = icicle(new int[40]);
        far.shape(0, 0, 9);
        far.shape(39, 0, 9);
        due("the farthest", far.apart(), 39);
    }

    // ---- ahead

    private static void then() {
        says("19", "AHEAD by n: what 0 LENGTH, 1 RINGS, 2 MASS, 3 DRIPPED, 4 DRIPS, 5 WIDE of THE TIP, 6 SALT of all. BEYOND.");
        IcicleRings x = new IcicleRings();
        x.set(1, 10);
        x.set(0, 49);
        int[] now = {1, 0, 10, 0, 0, 10, 0};
        // 39 CELLS of 49 with 490 of salt each come; 21 TICKS drip; CELL 1 stands out, and all below alike 0
        int[] then = {40, 1, 10 + 39 * 49 + 19, 21 * 49, 21, 49, 39 * 490};
        for (int what = 0; what < 7; what++) {
            due("by 0: " + what, x.then(0, what), now[what]);
            due("by 60: " + what, x.then(60, what), then[what]);
        }
        for (int what : new int[] {-1, 7, MIN, MAX}) {
            due("no what " + what, x.then(0, what), BEYOND);
        }
        for (int n : new int[] {-1, 61, MIN, MAX}) {
            due("n " + n, x.then(n, 0), BEYOND);
        }
        due("all is as before", x.count(0) + x.count(1) + x.count(4), 1);

        says("20", "AHEAD by n: WIDE of a CELL. BEYOND. NONE: there is none such then.");
        due("there then", x.wide(1, 1), 49);
        due("not there yet", x.wide(0, 1), NONE);
        due("the last then", x.wide(39, 39), 49);
        due("not there yet", x.wide(38, 39), NONE);
        for (int cell : new int[] {-1, 40, MIN, MAX}) {
            due("no CELL " + cell, x.wide(60, cell), BEYOND);
        }
        for (int n : new int[] {-1, 61, MIN, MAX}) {
            due("n " + n, x.wide(n, 0), BEYOND);
        }

        says("21", "PACE. BEYOND. NONE.");
        due("no RINGS", x.pace(0), NONE);
        due("RINGS then alone", x.pace(1), NONE);
        due("n 61", x.pace(61), BEYOND);
        due("n -1", x.pace(-1), BEYOND);
        due("by 0", icicle(0, 9, 0, 9).pace(0), 0);
        IcicleRings y = icicle(10, 10, 15);
        Checks.textOf(y, 0, "15+(t-1)*5");
        due("by 1", y.pace(1), 1);
    }

    private static void needs() {
        says("22", "NEEDED, as bits. BEYOND.");
        IcicleRings x = icicle(10, 10, 10);
        x.set(0, 50);
        due("no CAUSES", x.needed(60), 0);
        x.cause(1, 25);
        due("bit 0", x.needed(1), 1);
        x.cause(0, 1);
        x.turn(0, 0);
        due("off", x.needed(1), 0);
        due("n -1", x.needed(-1), BEYOND);
        due("n 61", x.needed(61), BEYOND);
        due("n far", x.needed(MIN), BEYOND);
        due("on and off as before", x.ofCause(0, 2) * 10 + x.ofCause(1, 2), 1);

        says("23", "LITTLE for r (0 to 40) by n. BEYOND. NONE.");
        IcicleRings y = icicle(0, 9, 0, 9);
        due("r 0", y.little(0, 0), 0);
        due("r 2", y.little(0, 2), 0);
        due("r 3: none", y.little(0, 3), NONE);
        due("r 40: none", y.little(60, 40), NONE);
        due("r 41", y.little(0, 41), BEYOND);
        due("r -1", y.little(0, -1), BEYOND);
        due("r far", y.little(0, MAX), BEYOND);
        due("n 61", y.little(61, 0), BEYOND);
        due("n -1", y.little(-1, 0), BEYOND);
        y.set(1, 50);
        due("SALTY as told doesn't matter", y.little(60, 0), 0);
        due("and stays", y.set(1, 50), 50);

        says("24", "BREAKS, by n TICKS at most. BEYOND. NONE.");
        IcicleRings z = new IcicleRings();
        z.set(0, 20);
        z.set(5, 29);
        due("just by then", z.breaks(1), 1);
        due("not by then", z.breaks(0), NONE);
        due("sooner", z.breaks(60), 1);
        due("n 61", z.breaks(61), BEYOND);
        due("n -1", z.breaks(-1), BEYOND);
        due("n far", z.breaks(MIN), BEYOND);
        z.set(5, 9999999);
        due("never", z.breaks(60), NONE);

        says("25", "FALLS. BEYOND. NONE: with none.");
        due("any", z.falls(60), 99);
        z.set(5, 10);
        due("with none", z.falls(1), NONE);
        due("by 0 with any", z.falls(0), 99);
        due("n 61", z.falls(61), BEYOND);
        due("n -1", z.falls(-1), BEYOND);
        due("n far", z.falls(MAX), BEYOND);
        due("COLD stays", z.set(2, 20), 20);
        z.shape(0, 0, 0);
        z.set(5, 0);
        z.set(0, 0);
        due("BEARS 0 bears MASS 0", z.falls(60), 99);
    }

    // ---- pictures, boxes

    private static void pictures() {
        says("26", "OFF by a PICTURE. BEYOND: no such SHEET. NONE: it is missing.");
        IcicleRings x = icicle(10, 20);
        due("missing", x.off(3), NONE);
        x.sheet(3, 8, 0);
        due("no numbers", x.off(3), 30);
        x.sheet(3, 16, 40);
        due("all 0", x.off(3), 30);
        x.put(3, 39, -5);
        due("the last number", x.off(3), 35);
        for (int sheet : new int[] {-1, 4, MIN, MAX}) {
            due("no SHEET " + sheet, x.off(sheet), BEYOND);
        }

        says("27", "MADE by a PICTURE in n TICKS: what 0 the set, 1 by how much it is OFF. BEYOND: SHEET, n, what. "
            + "NONE: it is missing.");
        picture(x, 0, 12);
        x.cause(0, 5);
        x.cause(0, 10);
        due("the set", x.made(0, 1, 0), 2);
        due("OFF", x.made(0, 1, 1), 0);
        due("by 60, the set", x.made(0, 60, 0), 0);
        due("by 60, OFF", x.made(0, 60, 1), 2);
        for (int sheet : new int[] {-1, 4, MIN, MAX}) {
            due("no SHEET " + sheet, x.made(sheet, 1, 0), BEYOND);
        }
        for (int n : new int[] {-1, 61, MIN, MAX}) {
            due("n " + n, x.made(0, n, 0), BEYOND);
        }
        for (int what : new int[] {-1, 2, MIN, MAX}) {
            due("what " + what, x.made(0, 1, what), BEYOND);
        }
        due("missing", x.made(1, 1, 0), NONE);
        due("missing", x.made(2, 60, 1), NONE);

        says("28", "BLOWN by a PICTURE in n TICKS. BEYOND. NONE likewise.");
        due("no matter", x.blown(0, 60), 0);
        for (int sheet : new int[] {-1, 4, MIN, MAX}) {
            due("no SHEET " + sheet, x.blown(sheet, 1), BEYOND);
        }
        for (int n : new int[] {-1, 61, MIN, MAX}) {
            due("n " + n, x.blown(0, n), BEYOND);
        }
        due("missing", x.blown(1, 60), NONE);
    }

    private static void boxes() {
        says("30", "TRY. BEYOND. NONE: there are no BOXES.");
        IcicleRings x = new IcicleRings();
        due("no BOXES", x.tries(0), NONE);
        due("no BOXES", x.tries(60), NONE);
        for (int n : new int[] {-1, 61, MIN, MAX}) {
            due("n " + n, x.tries(n), BEYOND);
        }
        x.box(0, 0, 0);
        due("one BOX", x.tries(0), 0);
        due("one BOX", x.tries(60), 0);
        for (int n : new int[] {-1, 61, MIN, MAX}) {
            due("n " + n, x.tries(n), BEYOND);
        }

        says("29", "A BOX: its number. BEYOND. FULL.");
        IcicleRings y = new IcicleRings();
        int[][] wrong = {{-51, 0, 0}, {100, 0, 0}, {MIN, 0, 0}, {0, -1, 0}, {0, 100, 0}, {0, MAX, 0}, {0, 0, -1}, {0, 0, 100},
            {0, 0, MIN}};
        for (int[] w : wrong) {
            due("wrong", y.box(w[0], w[1], w[2]), BEYOND);
        }
        due("none came", y.count(3), 0);
        due("the least", y.box(-50, 0, 0), 0);
        due("the most", y.box(99, 99, 99), 1);
        due("2", y.box(99, 0, 0), 2);
        due("3", y.box(0, 99, 0), 3);
        due("4", y.box(0, 0, 99), 4);
        due("full", y.box(0, 0, 0), FULL);
        due("full", y.box(-50, 99, 99), FULL);
        due("wrong, and full", y.box(100, 0, 0), BEYOND);
    }

    // ---- draws, voices, sheets

    private static void voices() {
        says("31", "z becomes v: what it was (any number).");
        IcicleRings x = new IcicleRings();
        int[] any = {MIN, MAX, -1000000001, -1000000005, 0, -1};
        int was = 1;
        for (int v : any) {
            due("what it was", x.seed(v), was);
            due("it is", x.count(9), v);
            was = v;
        }
        due("no ERROR", x.told(1) + x.told(2) + x.told(3) + x.told(4) + x.told(5), 0);

        says("32", "A VOICE of a CAUSE: any number. BEYOND.");
        due("no CAUSE yet", x.voice(0, 0, 0), BEYOND);
        x.cause(0, 0);
        for (int act : new int[] {-1, 4, MIN, MAX}) {
            due("act " + act, x.voice(0, act, 0), BEYOND);
        }
        for (int cause : new int[] {-1, 1, 6, MIN, MAX}) {
            due("no CAUSE " + cause, x.voice(cause, 0, 0), BEYOND);
        }
        due("the least", x.voice(0, 0, MIN), MIN);
        due("the most", x.voice(0, 2, MAX), MAX);
        due("as an ERROR", x.voice(0, 0, -1000000002), -1000000002);
        due("as none", x.told(2), 0);
        x.turn(0, 0);
        due("of one that is off", x.voice(0, 0, 5), 5);

        says("33", "THE TRACE's i-th. NONE: there is none such.");
        IcicleRings y = new IcicleRings();
        due("none at first", y.trace(0), NONE);
        y.cause(3, 1);
        y.voice(0, 0, 1);
        due("the first", y.trace(0), 41);
        due("the last", y.trace(2), 10);
        for (int i : new int[] {-1, 3, 39, 40, MIN, MAX}) {
            due("none at " + i, y.trace(i), NONE);
        }
    }

    private static void sheets() {
        says("34", "A SHEET has n numbers, all 0, of so many bits (8, 16, 32; 0: it is missing, n doesn't matter): 1.");
        IcicleRings x = new IcicleRings();
        x.shape(0, 0, 0);
        for (int bits : new int[] {8, 16, 32}) {
            due("no numbers", x.sheet(0, bits, 0), 1);
            due("no numbers", x.put(0, 0, 1), BEYOND);
            due("40 numbers", x.sheet(0, bits, 40), 1);
            for (int i = 0; i < 40; i++) {
                x.put(0, i, 1);
            }
            due("not 0", x.off(0), 40);
            due("as before", x.sheet(0, bits, 40), 1);
            due("all 0", x.off(0), 0);
        }
        x.put(0, 39, 9);
        x.sheet(0, 32, 10);
        x.sheet(0, 32, 40);
        due("all 0 behind the end of one ahead", x.off(0), 0);
        for (int n : new int[] {0, -1, 41, MIN, MAX}) {
            x.sheet(1, 8, 3);
            due("missing, n " + n, x.sheet(1, 0, n), 1);
            due("missing", x.draw(1), NONE);
        }
        due("missing already", x.sheet(1, 0, 0), 1);

        says("34", "STATE: n is below 0 (ahead of BEYOND of n).");
        x.sheet(2, 8, 3);
        due("n -1", x.sheet(2, 8, -1), STATE);
        due("n far below", x.sheet(2, 32, MIN), STATE);
        due("n 41", x.sheet(2, 8, 41), BEYOND);
        due("n far", x.sheet(2, 8, MAX), BEYOND);
        for (int bits : new int[] {-8, -1, 1, 7, 9, 15, 17, 24, 31, 33, 64, MIN, MAX}) {
            due("bits " + bits, x.sheet(2, bits, 1), BEYOND);
            due("bits ahead of n " + bits, x.sheet(2, bits, -1), BEYOND);
        }
        for (int sheet : new int[] {-1, 4, MIN, MAX}) {
            due("no SHEET " + sheet, x.sheet(sheet, 8, 1), BEYOND);
            due("SHEET ahead of n " + sheet, x.sheet(sheet, 8, -1), BEYOND);
            due("no SHEET to be missing " + sheet, x.sheet(sheet, 0, 1), BEYOND);
        }
        due("it stays", x.put(2, 2, 1), 1);
        due("it stays", x.put(2, 3, 1), BEYOND);
    }

    private static void put() {
        says("35", "Number i of a SHEET becomes v (its lowest bits): 1.");
        IcicleRings x = new IcicleRings();
        x.shape(0, 0, 0);
        int[][] kept = {{8, 127, 127}, {8, 256, 0}, {8, 255, 1}, {8, 128, 128}, {8, MIN, 0}, {8, MAX, 1}, {16, 32767, 32767},
            {16, 65536, 0}, {16, 65535, 1}, {16, 32768, 32768}, {16, MIN, 0}, {16, MAX, 1}, {32, 65536, 65536},
            {32, 999999, 999999}, {32, -999999, 999999}};
        for (int[] k : kept) {
            x.sheet(0, k[0], 1);
            due("put", x.put(0, 0, k[1]), 1);
            due("of " + k[0] + " bits " + k[1], x.off(0), k[2]);
        }

        says("35", "BEYOND: no such SHEET. NONE: it is missing. BEYOND: no such number.");
        for (int sheet : new int[] {-1, 4, MIN, MAX}) {
            due("no SHEET " + sheet, x.put(sheet, 0, 1), BEYOND);
        }
        due("missing", x.put(1, 0, 1), NONE);
        due("missing, no such number", x.put(1, -1, 1), NONE);
        x.sheet(0, 8, 2);
        for (int i : new int[] {-1, 2, 39, 40, MIN, MAX}) {
            due("no number " + i, x.put(0, i, 1), BEYOND);
        }
        due("all 0 still", x.off(0), 0);
        due("the last", x.put(0, 1, 1), 1);
    }

    private static void move() {
        says("36", "n numbers of a SHEET, from number i on, come to another one (or the same), from its number j on, "
            + "as they all were: n.");
        IcicleRings x = icicle(0, 0, 0, 0);
        picture(x, 0, 1, 20, 300, 4000);
        picture(x, 1, 5, 5, 5);
        due("none", x.move(0, 0, 1, 0, 0), 0);
        due("none from its end to the end", x.move(0, 4, 1, 3, 0), 0);
        x.cells(1);
        due("none came", x.cell(0, 0) + x.cell(1, 0) + x.cell(2, 0), 15);
        due("the last to the last", x.move(0, 3, 1, 2, 1), 1);
        x.cells(1);
        due("the last", x.cell(2, 0), 4000);
        due("the others stay", x.cell(0, 0) + x.cell(1, 0), 10);
        due("as many as there is room", x.move(0, 0, 1, 0, 3), 3);
        x.cells(1);
        due("all three", x.cell(0, 0) + x.cell(1, 0) + x.cell(2, 0), 321);
        due("the same, down", x.move(0, 0, 0, 1, 3), 3);
        x.cells(0);
        due("as they all were", x.cell(0, 0), 1);
        due("as they all were", x.cell(1, 0), 1);
        due("as they all were", x.cell(2, 0), 20);
        due("as they all were", x.cell(3, 0), 300);
        due("the same, up", x.move(0, 1, 0, 0, 3), 3);
        x.cells(0);
        due("as they all were", x.cell(1, 0), 20);
        due("as they all were", x.cell(2, 0), 300);
        due("onto itself", x.move(0, 0, 0, 0, 4), 4);
        x.sheet(2, 8, 40);
        x.sheet(3, 8, 40);
        due("all 40", x.move(2, 0, 3, 0, 40), 40);

        says("36", "BEYOND: no such SHEET. NONE: one is missing. KIND: they are of unlike bits. "
            + "BEYOND: n, i, or j is below 0, or they don't stand there.");
        for (int sheet : new int[] {-1, 4, MIN, MAX}) {
            due("no SHEET " + sheet, x.move(sheet, 0, 0, 0, 0), BEYOND);
            due("no other SHEET " + sheet, x.move(0, 0, sheet, 0, 0), BEYOND);
        }
        due("unlike bits", x.move(0, 0, 2, 0, 0), KIND);
        due("unlike bits", x.move(2, 0, 0, 0, 0), KIND);
        due("unlike bits, no such places", x.move(2, 41, 0, 0, -1), KIND);
        x.sheet(3, 0, 0);
        due("missing", x.move(3, 0, 0, 0, 0), NONE);
        due("the other is missing", x.move(0, 0, 3, 0, 0), NONE);
        due("both are missing", x.move(3, 0, 3, 0, 0), NONE);
        int[][] wrong = {{-1, 0, 1}, {0, -1, 1}, {0, 0, -1}, {0, 0, 4}, {1, 0, 4}, {4, 0, 1}, {5, 0, 0}, {0, 4, 0}, {0, 3, 1},
            {0, 1, 3}, {MAX, 0, 1}, {0, MAX, 1}, {0, 0, MAX}, {MAX, 0, MAX}, {1, MAX, MAX}, {MIN, 0, 1}, {0, MIN, 1},
            {0, 0, MIN}, {MIN, MIN, MIN}, {-1, 0, 0}, {0, -1, 0}};
        for (int[] w : wrong) {
            due("from " + w[0] + " to " + w[1] + " many " + w[2], x.move(0, w[0], 1, w[1], w[2]), BEYOND);
        }
    }

    private static void draw() {
        says("37", "WIDE of all CELLS comes to a SHEET (its lowest bits), from number 0 on, as many as have room there: how many.");
        IcicleRings x = icicle(10, 300, 99999);
        x.sheet(0, 32, 0);
        due("no room", x.draw(0), 0);
        x.sheet(0, 32, 2);
        due("less room", x.draw(0), 2);
        due("as they are", x.off(0), 99999);
        x.sheet(0, 32, 3);
        due("just room", x.draw(0), 3);
        due("as they are", x.off(0), 0);
        x.sheet(0, 32, 40);
        x.put(0, 3, 7);
        due("more room", x.draw(0), 3);
        due("what stands behind stays", x.off(0), 7);
        x.sheet(0, 8, 3);
        x.draw(0);
        // 300 is 44, 99999 is -97 in 8 bits
        due("lowest 8 bits", x.off(0), 256 + 100096);
        x.sheet(0, 16, 3);
        x.draw(0);
        // 99999 is -31073 in 16 bits
        due("lowest 16 bits", x.off(0), 131072);

        says("37", "BEYOND. NONE: it is missing.");
        for (int sheet : new int[] {-1, 4, MIN, MAX}) {
            due("no SHEET " + sheet, x.draw(sheet), BEYOND);
        }
        due("missing", x.draw(1), NONE);
        due("CELLS stay", x.cell(2, 0), 99999);
    }

    // ---- images, what is told

    private static void images() {
        says("39", "All is as the IMAGE has it, which stays: NOW. NONE: there is none.");
        IcicleRings x = new IcicleRings();
        due("none", x.restore(), NONE);
        x.ticks(5);
        due("none still", x.restore(), NONE);
        due("NOW stays", x.count(0), 5);
        x.image();
        x.ticks(5);
        due("as it was", x.restore(), 5);
        x.ticks(7);
        due("it stays", x.restore(), 5);
        due("at once again", x.restore(), 5);

        says("38", "All (but SHEETS, THE TRACE, what told() tells, and how often this was done) is kept as an IMAGE, "
            + "in place of one ahead: how often that was done.");
        IcicleRings y = full();
        due("once", y.image(), 1);
        emptied(y);
        y.restore();
        asFull(y);
        due("SHEETS stay", y.draw(0), NONE);
        due("THE TRACE stays", y.trace(0), 12);
        due("told stays", y.told(5), 1);
        due("twice", y.image(), 2);
        y.shape(39, 0, 5);
        due("thrice", y.image(), 3);
        y.shape(39, 0, 6);
        y.restore();
        due("in place of the one ahead", y.cell(39, 0), 5);
        due("how often isn't undone", y.image(), 4);
        IcicleRings z = new IcicleRings();
        due("of an object at first", z.image(), 1);
        fill(z);
        z.restore();
        int[] counts = {0, 1, 0, 0, 0, 0, 0, 0, 0, 1};
        for (int i = 0; i < 10; i++) {
            due("at first again " + i, z.count(i), counts[i]);
        }
        due("no TEXT", z.law(0, 1, 2, 3), 200);
        due("no CAUSES", z.ofCause(0, 0), BEYOND);
        due("numbers begin at 0", z.cause(1, 2), 0);
        due("no BOXES", z.tries(0), NONE);
    }

    private static IcicleRings full() {
        IcicleRings x = new IcicleRings();
        fill(x);
        return x;
    }

    /** All that has a limit is full, but for NOW. */
    private static void fill(IcicleRings x) {
        x.set(0, 20);
        x.ticks(40);
        for (int i = 0; i < 6; i++) {
            x.cause(i, 10 + i);
        }
        x.turn(5, 0);
        for (int i = 0; i < 5; i++) {
            x.box(i, i, i);
        }
        Checks.textOf(x, 0, "7");
        Checks.textOf(x, 1, "8");
        Checks.feed(x, "1+1+1+1+1+1+1+1+1+1+1+1+1+1+1+1+1+1+1+1+1+1+1+1+12");
        for (int i = 0; i < 20; i++) {
            x.tell(i);
        }
        x.seed(-5);
        x.shape(39, 1, 999999);
    }

    private static void asFull(IcicleRings x) {
        int[] counts = {40, 40, 6, 5, 20, 1, 50, 20};
        for (int i = 0; i < 8; i++) {
            due("count " + i, x.count(i), counts[i]);
        }
        due("z", x.count(9), -5);
        due("WIDE", x.cell(39, 0), 20);
        due("SALT", x.cell(39, 1), 999999);
        due("WATER", x.set(0, 20), 20);
        due("COLD", x.set(2, 20), 20);
        due("a CAUSE", x.ofCause(5, 1), 15);
        due("a CAUSE that is off", x.ofCause(5, 2), 0);
        due("a CAUSE that is on", x.ofCause(4, 2), 1);
        due("TEXT 0", x.law(0, 0, 0, 0), 7);
        due("TEXT 1", x.law(1, 0, 0, 0), 8);
        due("THE TAPE", x.text(0), 1);
        due("its bytes", x.law(0, 0, 0, 0), 36);
        x.restore();
    }

    private static void emptied(IcicleRings x) {
        x.text(0);
        Checks.textOf(x, 1, "9");
        x.check(0);
        x.turn(5, 1);
        x.turn(4, 0);
        x.seed(3);
        x.gusts(3);
        x.set(0, 1);
        x.set(2, 1);
        x.shape(39, 0, 1);
        x.shape(39, 1, 1);
        x.voice(0, 2, 1);
        x.as(0, 1);
    }

    private static void told() {
        says("40", "One more number waits: how many. FULL: 20 wait.");
        IcicleRings x = new IcicleRings();
        for (int i = 1; i <= 20; i++) {
            due("one more", x.tell(i % 2 == 0 ? MIN : MAX), i);
        }
        due("full", x.tell(0), FULL);
        due("still 20", x.count(7), 20);
        x.check(0);
        due("room again", x.tell(0), 1);

        says("41", "The numbers that wait (none do then) are all RINGS AHEAD by n, from the roof down: 0; "
            + "else 1 and the place (from 0) of the first that isn't so, or is missing.");
        IcicleRings y = icicle(0, 9, 0, 9, 0, 9);
        due("all are missing", y.check(0), 1);
        due("1", checked(y, 1), 2);
        due("1 3", checked(y, 1, 3), 3);
        due("1 3 5", checked(y, 1, 3, 5), 0);
        due("1 3 5 7", checked(y, 1, 3, 5, 7), 4);
        due("0 3 5", checked(y, 0, 3, 5), 1);
        due("1 2 5", checked(y, 1, 2, 5), 2);
        due("1 3 4", checked(y, 1, 3, 4), 3);
        due("5 3 1", checked(y, 5, 3, 1), 1);
        due("the ends of ints", checked(y, MIN, MAX), 1);
        due("no RINGS, none wait", new IcicleRings().check(60), 0);
        due("no RINGS, one waits", checked(new IcicleRings(), 0), 1);
        int[] zigzag = new int[40];
        int[] twenty = new int[20];
        for (int i = 0; i < 20; i++) {
            zigzag[2 * i + 1] = 9;
            twenty[i] = 2 * i + 1;
        }
        due("all 20", checked(icicle(zigzag), twenty), 0);
        twenty[19] = 38;
        due("but for the last", checked(icicle(zigzag), twenty), 20);
        IcicleRings z = new IcicleRings();
        z.set(0, 40);
        z.tell(1);
        due("AHEAD", z.check(1), 0);
        due("none wait then", z.count(7), 0);

        says("41", "BEYOND (none wait then, too).");
        for (int n : new int[] {-1, 61, MIN, MAX}) {
            z.tell(1);
            z.tell(2);
            due("n " + n, z.check(n), BEYOND);
            due("none wait", z.count(7), 0);
        }
        due("counted", z.told(1), 4);
    }

    private static int checked(IcicleRings x, int... numbers) {
        for (int v : numbers) {
            x.tell(v);
        }
        int answer = x.check(0);
        due("none wait then", x.count(7), 0);
        return answer;
    }

    private static void counts() {
        says("42", "0 NOW, 1 CELLS, 2 CAUSES, 3 BOXES, 4 DRIPPED, 5 DRIPS, 6 bytes of THE TAPE, 7 numbers that wait, "
            + "8 BODIES in THE TRACE, 9 z (any number). BEYOND.");
        IcicleRings x = full();
        x.voice(4, 3, 1);
        int[] want = {40, 40, 6, 5, 20, 1, 50, 20, 11, -5};
        for (int i = 0; i < 10; i++) {
            due("what " + i, x.count(i), want[i]);
        }
        for (int what : new int[] {-1, 10, MIN, MAX}) {
            due("what " + what, x.count(what), BEYOND);
        }
        x.seed(-1000000003);
        due("any number", x.count(9), -1000000003);
        due("no ERROR", x.told(3), 0);

        says("43", "How many acts have answered an ERROR LOW - k (k 1 .. 5); BEYOND: another k (counted, too).");
        IcicleRings y = new IcicleRings();
        for (int k = 1; k <= 5; k++) {
            due("none at first", y.told(k), 0);
        }
        int beyond = 0;
        for (int k : new int[] {0, 6, -1, MIN, MAX}) {
            due("k " + k, y.told(k), BEYOND);
            beyond++;
            due("counted, too", y.told(1), beyond);
        }
        y.apart();
        due("NONE", y.told(2), 1);
        y.sheet(0, 8, -1);
        due("STATE", y.told(3), 1);
        for (int i = 0; i < 22; i++) {
            y.tell(i);
        }
        due("FULL", y.told(4), 2);
        y.cause(1, 0);
        y.as(0, 6);
        y.as(0, 5);
        y.as(0, 4);
        due("KIND", y.told(5), 3);
        due("BEYOND as before", y.told(1), beyond);
    }

    public static void main(String[] args) {
        newObject();
        cells();
        settingsAndCauses();
        asKinds();
        freezes();
        feed();
        text();
        ticks();
        rings();
        then();
        needs();
        pictures();
        boxes();
        voices();
        sheets();
        put();
        move();
        draw();
        images();
        told();
        counts();
        Checks.end();
    }
}
