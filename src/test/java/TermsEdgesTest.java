/** The sentences of the document's Terms that name a boundary, each with a test of its own. */
public final class TermsEdgesTest {
    private static final int BEYOND = Checks.BEYOND;
    private static final int NONE = Checks.NONE;
    private static final int STATE = Checks.STATE;
    private static final int FULL = Checks.FULL;
    private static final int KIND = Checks.KIND;
    private static final int MIN = Integer.MIN_VALUE;
    private static final int MAX = Integer.MAX_VALUE;

    private static void says(String where, String words) {
        Checks.says(where, words);
    }

    private static void due(String what, long got, long want) {
        Checks.due(what, got, want);
    }

    private static IcicleRings icicle(int... wides) {
        return Checks.icicle(wides);
    }

    private static int textOf(IcicleRings x, int use, String text) {
        return Checks.textOf(x, use, text);
    }

    /** What a text gives as COLD (held within -50 to 99). */
    private static int value(String text, int t, int w, int c) {
        IcicleRings x = new IcicleRings();
        due("'" + text + "' is a TEXT", textOf(x, 1, text), 1);
        return x.law(1, t, w, c);
    }

    private static int fault(String text) {
        IcicleRings x = new IcicleRings();
        return -10 - textOf(x, 0, text);
    }

    // ---- ERRORS, quotients

    private static void errors() {
        says("Terms", "ERRORS are answers below -1000000000: LOW is -1000000000; LOW - 1 BEYOND, LOW - 2 NONE, LOW - 3 STATE, "
            + "LOW - 4 FULL, LOW - 5 KIND.");
        IcicleRings x = new IcicleRings();
        due("BEYOND", x.cell(1, 0), -1000000001);
        due("NONE", x.apart(), -1000000002);
        due("STATE", x.sheet(0, 8, -1), -1000000003);
        x.feed(0, 8);
        for (int i = 0; i < 5; i++) {
            x.feed(0, 8);
        }
        due("FULL", x.feed(0, 8), -1000000004);
        x.cause(1, 1);
        due("KIND", x.as(0, 2), -1000000005);

        says("Terms", "Each act tells its ERRORS in the order in which they are asked");
        IcicleRings y = full();
        due("cause: BEYOND, FULL", y.cause(7, 0), BEYOND);
        due("cause: BEYOND, FULL", y.cause(0, 100), BEYOND);
        due("cause: FULL", y.cause(0, 0), FULL);
        due("feed: BEYOND, FULL", y.feed(0, 9), BEYOND);
        due("feed: BEYOND, FULL", y.feed(0, 0), BEYOND);
        due("feed: FULL", y.feed(0, 1), FULL);
        due("ticks: BEYOND, STATE", y.ticks(101), BEYOND);
        due("ticks: BEYOND, STATE", y.ticks(0), BEYOND);
        due("ticks: STATE", y.ticks(1), STATE);
        due("gusts: BEYOND, STATE", y.gusts(101), BEYOND);
        due("gusts: STATE", y.gusts(1), STATE);
        due("box: BEYOND, FULL", y.box(0, 0, 100), BEYOND);
        due("box: FULL", y.box(0, 0, 99), FULL);
        IcicleRings z = new IcicleRings();
        due("wide: BEYOND, NONE", z.wide(61, 1), BEYOND);
        due("wide: BEYOND, NONE", z.wide(0, 40), BEYOND);
        due("wide: NONE", z.wide(0, 39), NONE);
        due("pace: BEYOND, NONE", z.pace(61), BEYOND);
        due("pace: NONE", z.pace(60), NONE);
        due("little: BEYOND, NONE", z.little(61, 40), BEYOND);
        due("little: BEYOND, NONE", z.little(0, 41), BEYOND);
        due("little: NONE", z.little(0, 40), NONE);
        due("breaks: BEYOND, NONE", z.breaks(61), BEYOND);
        due("breaks: NONE", z.breaks(60), NONE);
        z.set(5, 0);
        due("falls: BEYOND, NONE", z.falls(61), BEYOND);
        due("falls: NONE", z.falls(60), NONE);
        due("made: BEYOND, NONE", z.made(0, 61, 0), BEYOND);
        due("made: BEYOND, NONE", z.made(0, 0, 2), BEYOND);
        due("made: NONE", z.made(0, 60, 1), NONE);
        due("blown: BEYOND, NONE", z.blown(0, 61), BEYOND);
        due("blown: NONE", z.blown(0, 60), NONE);
        due("tries: BEYOND, NONE", z.tries(61), BEYOND);
        due("tries: NONE", z.tries(60), NONE);
        due("sheet: BEYOND of bits, STATE", z.sheet(0, 9, -1), BEYOND);
        due("sheet: BEYOND of the SHEET, STATE", z.sheet(4, 8, -1), BEYOND);
        due("put: NONE, BEYOND", z.put(0, -1, 0), NONE);
        z.sheet(1, 8, 2);
        z.sheet(2, 16, 2);
        due("move: BEYOND, NONE", z.move(0, 0, 4, 0, 1), BEYOND);
        due("move: BEYOND, NONE", z.move(4, 0, 0, 0, 1), BEYOND);
        due("move: NONE, BEYOND", z.move(0, -1, 1, 0, 1), NONE);
        due("move: NONE, BEYOND", z.move(1, 0, 0, -1, 1), NONE);
        due("move: KIND, BEYOND", z.move(1, 0, 2, 0, -1), KIND);
        due("move: BEYOND", z.move(1, 0, 1, 0, -1), BEYOND);
    }

    /** 40 CELLS, six CAUSES, five BOXES, 50 bytes, 20 numbers that wait, NOW 9999. */
    private static IcicleRings full() {
        IcicleRings x = new IcicleRings();
        x.set(0, 1);
        Checks.toTick(x, 9999);
        for (int i = 0; i < 6; i++) {
            x.cause(i, i);
        }
        for (int i = 0; i < 5; i++) {
            x.box(i, i, i);
        }
        Checks.feed(x, "1+1+1+1+1+1+1+1+1+1+1+1+1+1+1+1+1+1+1+1+1+1+1+1+12");
        for (int i = 0; i < 20; i++) {
            x.tell(i);
        }
        return x;
    }

    private static void quotients() {
        says("Terms", "Quotients are cut toward 0.");
        IcicleRings x = icicle(10, 13, 10);
        x.set(2, -50);
        x.set(3, 5);
        x.cause(0, 1);
        x.cause(0, 99);
        x.cause(2, 99);
        x.cause(3, 50);
        x.cause(4, 99);
        due("CAUSE: -50 by 100", x.freezes(0, 0, 1, 0), 0);
        due("CAUSE: -4950 by 100", x.freezes(1, 0, 1, 0), -49);
        due("SIDE: -49 * 15 by 10", x.freezes(2, 0, 1, 0), -73);
        due("RINGED: -25 * 15 by 10, and 50 * -3 by 100", x.freezes(3, 0, 1, 0), -37 - 1);
        due("SALTED: 99 * 7 by 2", x.freezes(4, 0, 2, 7), -73 - 2 - 346);
        due("a TEXT's", value("(0-7)/2", 0, 0, 0), -3);
        due("a TEXT's", value("7/(0-2)", 0, 0, 0), -3);
        due("APART: 5 by 2", icicle(50, 10, 10, 50, 10, 30).apart(), 2);
        IcicleRings y = new IcicleRings();
        y.shape(0, 1, 1999);
        due("MASS: 1999 by 1000", y.mass(), 11);
        IcicleRings z = new IcicleRings();
        z.set(0, 7);
        z.set(1, 1);
        z.cause(0, 15);
        z.ticks(1);
        due("salt that stays: 7 * 3 by 14", z.cell(0, 1), 1);
        due("the rest of it", z.cell(1, 1), 6);
    }

    // ---- 1: TICKS, CELLS, SETTINGS, CAUSES

    private static void ticksAndCells() {
        says("1", "TICKS are 0 to 9999; NOW is one (0 at first).");
        IcicleRings x = new IcicleRings();
        due("at first", x.count(0), 0);
        x.set(0, 0);
        Checks.toTick(x, 9998);
        due("two more are too many", x.ticks(2), STATE);
        due("two more are too many", x.gusts(2), STATE);
        due("NOW stays", x.count(0), 9998);
        due("one more", x.ticks(1), 9999);
        due("none more", x.ticks(1), STATE);
        due("none more", x.gusts(1), STATE);

        says("1", "CELLS 0, 1, .. (1 at first; at most 40), from the roof down");
        IcicleRings y = new IcicleRings();
        due("at first", y.count(1), 1);
        due("there is no second", y.cell(1, 0), BEYOND);
        y.set(0, 20);
        y.ticks(38);
        due("39", y.count(1), 39);
        y.ticks(1);
        due("40", y.count(1), 40);
        y.ticks(1);
        due("no more", y.count(1), 40);
        due("the last", y.cell(39, 0), 20);
        due("none behind it", y.cell(40, 0), BEYOND);

        says("1", "each WIDE (0 to 99999; 10 at first; what would be more is held there)");
        IcicleRings z = new IcicleRings();
        due("at first", z.cell(0, 0), 10);
        z.cause(0, 50);
        z.shape(0, 0, 99988);
        z.ticks(1);
        due("10 more", z.cell(0, 0), 99998);
        z.ticks(1);
        due("held", z.cell(0, 0), 99999);
        z.ticks(1);
        due("held again", z.cell(0, 0), 99999);
        z.shape(0, 0, 99989);
        z.ticks(1);
        due("just as much", z.cell(0, 0), 99999);
        due("AHEAD too", z.wide(60, 0), 99999);
        z.shape(0, 0, 0);
        due("0", z.cell(0, 0), 0);

        says("1", "with SALT in it (0 to 999999, held likewise; 0 at first)");
        IcicleRings s = new IcicleRings();
        due("at first", s.cell(0, 1), 0);
        s.set(0, 30);
        s.set(1, 10);
        s.set(4, 1);
        s.cause(2, 50);
        s.shape(0, 1, 999949);
        s.ticks(1);
        due("50 more: just as much", s.cell(0, 1), 999999);
        s.ticks(1);
        due("held", s.cell(0, 1), 999999);
        s.shape(0, 1, 999948);
        s.ticks(1);
        due("just below", s.cell(0, 1), 999998);
        due("AHEAD too", s.then(60, 6), 999999);
    }

    private static void theTip() {
        says("1", "THE TIP is the last one.");
        IcicleRings x = new IcicleRings();
        x.cause(1, 10);
        due("the only one", x.freezes(0, 0, 1, 0), 20);
        x.set(0, 30);
        x.ticks(1);
        due("no longer", x.freezes(0, 0, 1, 0), 0);
        due("the new one", x.freezes(0, 1, 1, 0), 20);
        x.turn(0, 0);
        x.ticks(38);
        due("not the last but one", x.freezes(0, 38, 1, 0), 0);
        due("the 40th", x.freezes(0, 39, 1, 0), 20);
    }

    private static void setting(int what, String words, int first, int least, int most) {
        says("1", words);
        IcicleRings x = new IcicleRings();
        due("at first", x.set(what, least), first);
        due("the least", x.set(what, most), least);
        due("the most", x.set(what, most), most);
        due("too small", x.set(what, least - 1), BEYOND);
        due("too great", x.set(what, most + 1), BEYOND);
        due("far too small", x.set(what, MIN), BEYOND);
        due("far too great", x.set(what, MAX), BEYOND);
        due("it stays", x.set(what, first), most);
    }

    private static void settings() {
        setting(0, "0 WATER (0 to 9999; 200 at first)", 200, 0, 9999);
        setting(1, "1 SALTY (0 to 99 in thousandths; 0)", 0, 0, 99);
        setting(2, "2 COLD (-50 to 99; 20)", 20, -50, 99);
        setting(3, "3 WIND (0 to 99; 0)", 0, 0, 99);
        setting(4, "4 DROP (1 to 999; 50)", 50, 1, 999);
        setting(5, "5 BEARS (0 to 9999999; 100000)", 100000, 0, 9999999);
    }

    private static void standsOut() {
        says("1", "(its own in place of one that isn't there)");
        due("a single one", new IcicleRings().cell(0, 2), 0);
        IcicleRings x = icicle(10, 40);
        due("the roof", x.cell(0, 2), -30);
        due("the tip", x.cell(1, 2), 30);
        IcicleRings y = icicle(99999, 0, 99999, 0);
        due("the roof's most", y.cell(0, 2), 99999);
        due("the least", y.cell(1, 2), -199998);
        due("the most", y.cell(2, 2), 199998);
        due("the tip's least", y.cell(3, 2), -99999);
    }

    private static void causes() {
        says("1", "CAUSES 0, 1, .. (at most 6)");
        IcicleRings x = new IcicleRings();
        due("none at first", x.ofCause(0, 0), BEYOND);
        for (int i = 0; i < 6; i++) {
            due("one more", x.cause(0, i), i);
            due("it is there", x.ofCause(i, 1), i);
        }
        due("no more", x.cause(0, 0), FULL);
        due("there are six", x.count(2), 6);
        due("no seventh", x.ofCause(6, 0), BEYOND);

        says("1", "of KINDS: 0 CAUSE; 1 TIPS, 2 SIDE, 5 LEANING under CAUSE; 3 RINGED under SIDE; 4 SALTED under RINGED; "
            + "6 FORKED under TIPS");
        IcicleRings y = new IcicleRings();
        due("KIND -1", y.cause(-1, 0), BEYOND);
        due("KIND 7", y.cause(7, 0), BEYOND);
        due("KIND 0", y.cause(0, 0), 0);
        due("KIND 6", y.cause(6, 0), 1);
        due("CAUSE isn't under TIPS", y.as(0, 1), KIND);
        due("FORKED is under TIPS", y.as(1, 1), 0);
        due("FORKED is under CAUSE", y.as(1, 0), 0);
        due("FORKED isn't under SIDE", y.as(1, 2), KIND);

        says("1", "each with a number m (0 to 99), on (at first) or off");
        IcicleRings z = new IcicleRings();
        due("-1", z.cause(0, -1), BEYOND);
        due("100", z.cause(0, 100), BEYOND);
        due("far", z.cause(0, MIN), BEYOND);
        due("none of them", z.count(2), 0);
        due("0", z.cause(0, 0), 0);
        due("99", z.cause(0, 99), 1);
        due("m 0", z.ofCause(0, 1), 0);
        due("m 99", z.ofCause(1, 1), 99);
        due("on at first", z.ofCause(0, 2), 1);
        due("on at first", z.ofCause(1, 2), 1);
    }

    private static void freezes() {
        says("1", "CAUSE: m * COLD by 100.");
        IcicleRings x = icicle(10, 10);
        x.cause(0, 99);
        x.cause(0, 0);
        x.set(2, 99);
        due("the most", x.freezes(0, 0, 0, 0), 98);
        due("m 0", x.freezes(1, 0, 0, 0), 0);
        x.set(2, -50);
        due("the least", x.freezes(0, 0, 0, 0), -49);
        x.set(2, 0);
        due("COLD 0", x.freezes(0, 0, 0, 0), 0);

        says("1", "TIPS: ten times a CAUSE's at THE TIP, else 0.");
        IcicleRings y = icicle(10, 10);
        y.cause(1, 99);
        y.set(2, 99);
        due("the most", y.freezes(0, 1, 0, 0), 980);
        due("else", y.freezes(0, 0, 0, 0), 0);
        y.set(2, -50);
        due("the least", y.freezes(0, 1, 0, 0), -490);
        due("else, below 0", y.freezes(0, 0, 0, 0), 0);

        says("1", "SIDE: a CAUSE's times (10 and WIND), by 10.");
        IcicleRings z = icicle(10, 10);
        z.cause(2, 99);
        z.set(2, 99);
        due("WIND 0", z.freezes(0, 0, 0, 0), 98);
        z.set(3, 99);
        due("WIND 99", z.freezes(0, 0, 0, 0), 1068);
        z.set(2, -50);
        due("below 0", z.freezes(0, 0, 0, 0), -534);

        says("1", "RINGED: as SIDE, and m times what the CELL STANDS OUT by 100.");
        IcicleRings r = icicle(0, 99999, 0);
        r.cause(3, 99);
        r.set(2, 0);
        due("the most", r.freezes(0, 1, 0, 0), 197998);
        due("below 0", r.freezes(0, 0, 0, 0), -98999);
        due("below 0 at the tip", r.freezes(0, 2, 0, 0), -98999);
        due("a single CELL doesn't stand out", ringedAlone(), 98);

        says("1", "SALTED: as RINGED, less m times salt by water (water 1 at least).");
        IcicleRings s = new IcicleRings();
        s.cause(4, 99);
        s.set(2, 0);
        due("water 0", s.freezes(0, 0, 0, 5), -495);
        due("water 1", s.freezes(0, 0, 1, 5), -495);
        due("water 2", s.freezes(0, 0, 2, 5), -247);
        due("most salt, no water", s.freezes(0, 0, 0, 999999), -98999901);
        due("most of both", s.freezes(0, 0, 999999, 999999), -99);
        due("no salt", s.freezes(0, 0, 0, 0), 0);
    }

    private static int ringedAlone() {
        IcicleRings x = new IcicleRings();
        x.cause(3, 99);
        x.set(2, 99);
        return x.freezes(0, 0, 0, 0);
    }

    private static void leaningAndForked() {
        says("1", "LEANING: as CAUSE, twice that at CELLS with an odd number, if WIND is above 20.");
        IcicleRings x = icicle(new int[40]);
        x.cause(5, 99);
        x.set(3, 20);
        due("WIND 20", x.freezes(0, 1, 0, 0), 19);
        x.set(3, 21);
        due("WIND 21, CELL 1", x.freezes(0, 1, 0, 0), 38);
        due("CELL 0", x.freezes(0, 0, 0, 0), 19);
        due("CELL 38", x.freezes(0, 38, 0, 0), 19);
        due("CELL 39", x.freezes(0, 39, 0, 0), 38);
        x.set(2, -50);
        due("below 0", x.freezes(0, 39, 0, 0), -98);

        says("1", "FORKED: as TIPS, and m at THE TIP, if NOW is a multiple of 7.");
        IcicleRings y = new IcicleRings();
        y.cause(6, 99);
        y.set(0, 0);
        due("NOW 0", y.freezes(0, 0, 0, 0), 190 + 99);
        y.ticks(1);
        due("NOW 1", y.freezes(0, 0, 0, 0), 190);
        y.ticks(5);
        due("NOW 6", y.freezes(0, 0, 0, 0), 190);
        y.ticks(1);
        due("NOW 7", y.freezes(0, 0, 0, 0), 190 + 99);
        y.set(2, 0);
        due("COLD 0", y.freezes(0, 0, 0, 0), 99);
        y.set(2, -50);
        due("COLD below 0", y.freezes(0, 0, 0, 0), 99 - 490);
        y.set(2, 20);
        y.turn(0, 0);
        y.set(0, 20);
        y.ticks(7);
        due("NOW 14, THE TIP", y.freezes(0, 7, 0, 0), 190 + 99);
        due("NOW 14, not THE TIP", y.freezes(0, 6, 0, 0), 0);
        Checks.toTick(y, 9999);
        y.turn(0, 1);
        y.set(2, 0);
        // the TICKS 9999, 10000, 10001, 10002 freeze nothing, 10003 is 7 times 1429
        due("before 10003", y.wide(4, 39), 20);
        due("with 10003", y.wide(5, 39), 40);
    }

    // ---- 2: TEXTS

    private static void tapeAndNumbers() {
        says("2", "TEXTS are read from THE TAPE (bytes, at most 50)");
        IcicleRings x = new IcicleRings();
        String fifty = "1+1+1+1+1+1+1+1+1+1+1+1+1+1+1+1+1+1+1+1+1+1+1+1+12";
        due("50 bytes", Checks.feed(x, fifty), 50);
        due("one more", x.feed('1', 1), FULL);
        due("it is a TEXT", x.text(0), 1);
        due("all of it", x.law(0, 0, 0, 0), 36);
        // each of its bytes is a NUMBER or a sign: no TEXT has more of them to work out
        due("50 parts", Checks.feed(x, "!0" + "+1".repeat(24)), 50);
        due("it is a TEXT", x.text(0), 1);
        due("all 50 are worked out", x.law(0, 0, 0, 0), 25);
        due("50 bytes", Checks.feed(x, fifty.replace("12", "1+")), 50);
        due("it ends too early", x.text(0), -60);
        due("50 bytes", Checks.feed(x, fifty.replace("12", "1)")), 50);
        due("its last is wrong", x.text(0), -59);
        due("none", x.text(0), -10);

        says("2", "a NUMBER of 1 to 4 digits");
        due("1 digit", value("7", 0, 0, 0), 7);
        due("4 digits", value("0099", 0, 0, 0), 99);
        due("9999", value("9999/101", 0, 0, 0), 99);
        due("none is 0", value("0", 0, 0, 0), 0);
        due("5 digits", fault("12345"), 4);
        due("5 digits of 0", fault("00001"), 4);
        due("5 digits later", fault("1+10000"), 6);
        due("4 digits in ( )", fault("(1234)"), -11);
        due("5 digits in ( )", fault("(12345)"), 5);

        says("2", "a NAME");
        due("t", value("t", 3, 4, 5), 3);
        due("w", value("w", 3, 4, 5), 4);
        due("c", value("c", 3, 4, 5), 5);
        for (char b : "sudvxbTWCa".toCharArray()) {
            due("no NAME " + b, fault("1+" + b), 2);
        }
        due("two of them", fault("tt"), 1);
        due("a digit behind one", fault("t1"), 1);
        due("one behind a digit", fault("1t"), 1);
        due("a byte above 127", fault("1+" + (char) ('t' + 128)), 2);
        due("a byte 0", fault("1" + (char) 0), 1);

        says("2", "No blanks.");
        due("first", fault(" 1"), 0);
        due("last", fault("1 "), 1);
        due("between", fault("1 +1"), 1);
        due("behind a sign", fault("1+ 1"), 2);
        due("in ( )", fault("(1 )"), 2);
        due("another", fault("1\n"), 1);
    }

    private static void open() {
        says("2", "At most 5 of ! and ( are open at once.");
        due("5 of !", fault("!!!!!1"), -11);
        due("6 of !", fault("!!!!!!1"), 5);
        due("5 of (", fault("(((((1)))))"), -11);
        due("6 of (", fault("((((((1))))))"), 5);
        due("5 of both", fault("!(!(!1))"), -11);
        due("6 of both, a ! last", fault("!(!(!!1))"), 5);
        due("6 of both, a ( last", fault("!(!(!(1)))"), 5);
        due("( after 5 of !", fault("!!!!!(1)"), 5);
        due("! after 5 of (", fault("(((((!1)))))"), 5);
        due("a ! is closed by its Q", fault("!1+!1+!1+!1+!1+!1+!1"), -11);
        due("a ! in ( ) is closed by its Q", fault("((((!1+!1))))"), -11);
        due("a ! is closed by its ( )", fault("!(1)+!(1)+!(1)+!(1)"), -11);
        due("a ( is closed by its )", fault("(1)+(1)+(1)+(1)+(1)+(1)"), -11);
        due("5 after 5", fault("!!!!!1+(((((1)))))"), -11);
        due("6 after 5", fault("!!!!!1+((((((1"), 12);
        due("4 and 2 at once", fault("((((1+!1+!!1))))"), 10);
        due("what 5 of ! give", value("!!!!!0", 0, 0, 0), 1);
    }

    private static void grammar() {
        says("2", "T: A { | A }. A: B { & B }. B: S, or S < S, S = S, S > S. S: P { + P, - P }. P: Q { * Q, / Q, % Q }.");
        due("| is weakest", value("1|0&0", 0, 0, 0), 1);
        due("& before |", value("0&0|1", 0, 0, 0), 1);
        due("< before &", value("0&0<1", 0, 0, 0), 0);
        due("+ before <", value("1+1<1+0", 0, 0, 0), 0);
        due("* before +", value("2+3*4", 0, 0, 0), 14);
        due("- from the left", value("9-5-3", 0, 0, 0), 1);
        due("/ from the left", value("90/5/3", 0, 0, 0), 6);
        due("% from the left", value("50%30%7", 0, 0, 0), 6);
        due("* / % are alike", value("7*5%4/1", 0, 0, 0), 3);
        due("! is strongest", value("!0*9", 0, 0, 0), 9);
        due("! of a ( )", value("!(0*9)", 0, 0, 0), 1);
        due("one comparison alone", fault("1<2<3"), 3);
        due("one comparison alone", fault("1=2>3"), 3);
        due("one on each side of &", fault("1<2&2<3"), -11);
        due("one on each side of |", fault("1<2|2<3"), -11);
        due("one more in ( )", fault("(1<2)<3"), -11);
        due("one more in ( )", fault("(1<2<3)"), 4);
        due("no sign ahead", fault("-1"), 0);
        due("no + ahead", fault("+1"), 0);
        due("no - after a sign", fault("1+-1"), 2);
        due("no == ", fault("1==1"), 2);
        due("no <=", fault("1<=1"), 2);
        due("no &&", fault("1&&1"), 2);
        due("no !=", fault("1!=1"), 1);
    }

    private static void wraps() {
        says("2", "Ints that wrap");
        due("+", value("t+w", MAX, 1, 0), -50);
        due("-", value("t-w", MIN, 1, 0), 99);
        due("*", value("t*w", 65536, 65536, 0), 0);
        due("*", value("9999*9999*9999*t", 1, 0, 0), 9999 * 9999 * 9999 > 0 ? 99 : -50);
        due("to its very end", value("t+w+50", MAX, MIN, 0), 49);

        says("2", "/ cut, % the rest that it leaves, both by 0 are 0");
        due("/ by 0", value("t/w", 7, 0, 0), 0);
        due("% by 0", value("t%w", 7, 0, 0), 0);
        due("0 / 0", value("t/w", 0, 0, 0), 0);
        due("the least / 0", value("t/w", MIN, 0, 0), 0);
        due("-7 / 2", value("t/w", -7, 2, 0), -3);
        due("-7 % 2", value("t%w", -7, 2, 0), -1);
        due("7 / -2", value("t/w", 7, -2, 0), -3);
        due("7 % -2", value("t%w", 7, -2, 0), 1);
        due("-7 / -2", value("t/w", -7, -2, 0), 3);
        due("-7 % -2", value("t%w", -7, -2, 0), -1);
        due("the least / -1 wraps", value("t/w", MIN, -1, 0), -50);
        due("the least % -1", value("t%w", MIN, -1, 0), 0);
        due("the least / the most", value("t/w", MIN, MAX, 0), -1);
        due("the least % the most", value("t%w", MIN, MAX, 0), -1);

        says("2", "| & < = > ! are 1 or 0, what is not 0 being true");
        due("5 | 9", value("t|w", 5, 9, 0), 1);
        due("0 | 9", value("t|w", 0, 9, 0), 1);
        due("-5 | 0", value("t|w", -5, 0, 0), 1);
        due("0 | 0", value("t|w", 0, 0, 0), 0);
        due("2 & 4", value("t&w", 2, 4, 0), 1);
        due("-1 & the least", value("t&w", -1, MIN, 0), 1);
        due("2 & 0", value("t&w", 2, 0, 0), 0);
        due("0 & 2", value("t&w", 0, 2, 0), 0);
        due("!-1", value("!t", -1, 0, 0), 0);
        due("!0", value("!t", 0, 0, 0), 1);
        due("!!5", value("!!t", 5, 0, 0), 1);
        due("the least < the most", value("t<w", MIN, MAX, 0), 1);
        due("the most > the least", value("t>w", MAX, MIN, 0), 1);
        due("alike aren't <", value("t<w", 5, 5, 0), 0);
        due("alike aren't >", value("t>w", 5, 5, 0), 0);
        due("alike are =", value("t=w", MIN, MIN, 0), 1);
        due("unlike aren't =", value("t=w", MIN, MAX, 0), 0);

        says("2", "all is worked out");
        due("behind what is true", value("1|1/0", 0, 0, 0), 1);
        due("behind what is not", value("0&1/0", 0, 0, 0), 0);
    }

    private static void faults() {
        says("2", "FAULT: the place of the first byte with which no TEXT goes on");
        due("the first", fault(")"), 0);
        due("the second", fault("1("), 1);
        due("the last", fault("1+1+1)"), 5);
        due("the first of several", fault("1++)(x"), 2);
        due("a ) too many", fault("(1))"), 3);
        due("nothing in ( )", fault("()"), 1);
        due("a ! behind a value", fault("1!"), 1);
        due("a ( behind a )", fault("(1)(1)"), 3);
        due("a digit behind a )", fault("(1)1"), 3);
        due("a NAME behind a )", fault("(1)t"), 3);
        due("a byte of 255", fault("1" + (char) 255), 1);

        says("2", "how many there are, if it ends too early");
        due("none", fault(""), 0);
        due("a sign", fault("1+"), 2);
        due("a !", fault("!"), 1);
        due("a (", fault("("), 1);
        due("an open (", fault("(1"), 2);
        due("an open ( of two", fault("((1)"), 4);
        due("behind <", fault("1<"), 2);
        due("behind &", fault("1<2&"), 4);
    }

    private static void uses() {
        says("2", "held within 0 to 9999, -50 to 99");
        IcicleRings x = new IcicleRings();
        textOf(x, 0, "t");
        textOf(x, 1, "t");
        int[][] waters = {{-1, 0}, {0, 0}, {1, 1}, {9998, 9998}, {9999, 9999}, {10000, 9999}, {MIN, 0}, {MAX, 9999}};
        for (int[] v : waters) {
            due("WATER of " + v[0], x.law(0, v[0], 0, 0), v[1]);
        }
        int[][] colds = {{-51, -50}, {-50, -50}, {-49, -49}, {98, 98}, {99, 99}, {100, 99}, {MIN, -50}, {MAX, 99}};
        for (int[] v : colds) {
            due("COLD of " + v[0], x.law(1, v[0], 0, 0), v[1]);
        }
        IcicleRings y = new IcicleRings();
        textOf(y, 0, "9999*9");
        y.ticks(1);
        due("water of a TICK is held", y.count(4), 9999);
        textOf(y, 0, "0-9");
        y.ticks(1);
        due("water of a TICK isn't below 0", y.count(4), 9999);
        y.cause(0, 99);
        textOf(y, 0, "w");
        textOf(y, 1, "9999");
        y.ticks(1);
        due("COLD of a TICK is held", y.cell(0, 0), 10 + 98);
        textOf(y, 1, "0-9999");
        due("COLD of a TICK is held below", y.freezes(0, 0, 0, 0), -49);

        says("2", "NAMES t NOW, w WATER, c COLD (as SETTINGS tell)");
        IcicleRings z = new IcicleRings();
        textOf(z, 1, "c+50");
        textOf(z, 0, "c");
        z.cause(0, 10);
        due("COLD by its TEXT", z.freezes(0, 0, 0, 0), 7);
        z.ticks(1);
        // 20 of water, 7 freeze
        due("c isn't COLD by the TEXT", z.cell(1, 0), 13);
        IcicleRings u = new IcicleRings();
        textOf(u, 0, "5");
        textOf(u, 1, "w-150");
        u.cause(0, 10);
        due("w isn't water by the TEXT", u.freezes(0, 0, 0, 0), 5);

        says("2", "without a TEXT as the SETTING");
        IcicleRings v = new IcicleRings();
        due("WATER", v.law(0, 1, 2, 3), 200);
        due("COLD", v.law(1, 1, 2, 3), 20);
        v.set(0, 0);
        v.set(2, -50);
        due("WATER 0", v.law(0, 1, 2, 3), 0);
        due("COLD -50", v.law(1, 1, 2, 3), -50);

        says("2", "Where FREEZES has COLD, that of the TICK at hand is meant (asked alone: that of NOW).");
        IcicleRings s = new IcicleRings();
        s.cause(0, 99);
        s.cause(1, 99);
        s.turn(1, 0);
        textOf(s, 1, "(t=1)*99");
        due("at 0", s.freezes(0, 0, 0, 0), 0);
        s.ticks(1);
        due("the TICK 0 had none", s.cell(0, 0), 10);
        due("at 1", s.freezes(0, 0, 0, 0), 98);
        due("TIPS at 1", s.freezes(1, 0, 0, 0), 980);
        s.ticks(1);
        due("the TICK 1 had it", s.cell(0, 0), 108);
        due("at 2", s.freezes(0, 0, 0, 0), 0);
        due("asking AHEAD changes nothing", s.then(3, 5), 108);
        due("at 2 still", s.freezes(0, 0, 0, 0), 0);
    }

    // ---- 3: a TICK

    private static void tick() {
        says("3", "water of the TICK comes to CELL 0, with salt: water times SALTY");
        IcicleRings w = new IcicleRings();
        w.set(0, 9999);
        w.set(1, 99);
        w.set(4, 1);
        w.cause(0, 99);
        w.set(2, 99);
        w.ticks(1);
        // 989901 of salt, 98 of 9999 freeze
        due("most salt", w.cell(0, 1), 989901L * 98 / 19998);
        w.set(0, 0);
        w.ticks(1);
        due("no water, no salt", w.cell(0, 1), 989901L * 98 / 19998);
        w.set(0, 9999);
        w.set(1, 0);
        w.ticks(1);
        due("SALTY 0, no salt", w.cell(0, 1), 989901L * 98 / 19998);

        says("3", "(WIDE of those above being anew, of those below as it was)");
        IcicleRings o = icicle(10, 14, 10);
        o.cause(3, 50);
        o.cause(0, 10);
        o.ticks(1);
        // CELL 0: 10 - 2 + 2, so 20; CELL 1: 28 - 20 - 10 = -2: 10 - 1 + 2, so 25; CELL 2: -15: 10 - 7 + 2
        due("CELL 0", o.cell(0, 0), 20);
        due("CELL 1", o.cell(1, 0), 25);
        due("CELL 2", o.cell(2, 0), 15);

        says("3", "what freezes is FREEZES of all CAUSES that are on, together, 0 at least, no more than the water");
        IcicleRings x = new IcicleRings();
        x.set(1, 1);
        x.set(4, 999);
        x.set(0, 999);
        x.cause(4, 30);
        x.cause(0, 99);
        x.cause(0, 99);
        // SALTED: 6 less 30; twice 19: 14 in all
        x.ticks(1);
        due("together, then 0 at least", x.cell(0, 0), 24);
        x.turn(1, 0);
        x.ticks(1);
        // -24 and 19
        due("together below 0: 0", x.cell(0, 0), 24);
        x.turn(2, 0);
        x.ticks(1);
        due("below 0: 0", x.cell(0, 0), 24);
        x.turn(0, 0);
        x.ticks(1);
        due("all off: 0", x.cell(0, 0), 24);
        IcicleRings y = new IcicleRings();
        y.cause(0, 99);
        y.set(0, 19);
        y.ticks(1);
        due("just the water", y.cell(0, 0), 29);
        due("nothing is left", y.count(1), 1);
        y.set(0, 18);
        y.ticks(1);
        due("no more than the water", y.cell(0, 0), 47);
        due("nothing is left", y.count(1), 1);
        y.set(0, 20);
        y.ticks(1);
        due("1 is left", y.cell(1, 0), 1);
        y.set(0, 0);
        y.ticks(1);
        due("no water", y.cell(0, 0), 66);

        says("3", "salt times what freezes, by twice the water (0 without water), stays in the CELL as SALT");
        IcicleRings z = new IcicleRings();
        z.set(1, 99);
        z.set(0, 0);
        z.cause(0, 99);
        z.ticks(1);
        due("without water", z.cell(0, 1), 0);
        z.set(0, 19);
        z.ticks(1);
        due("all freezes: half of it", z.cell(0, 1), 19 * 99 / 2);
        z.set(2, 0);
        z.ticks(1);
        due("nothing freezes: none of it", z.cell(0, 1), 19 * 99 / 2);
        due("all goes on", z.cell(1, 1), 19 * 99);
    }

    private static void goesOn() {
        says("3", "the rest of water and salt goes on");
        IcicleRings x = icicle(10, 10, 10);
        x.set(0, 40);
        x.set(1, 10);
        x.cause(0, 99);
        x.ticks(1);
        // 40 with 400 of salt: 19 freeze, 400 * 19 by 80 stay; 21 with 305: 19 freeze, 305 * 19 by 42 stay; 2 with 168 freeze
        due("WIDE of CELL 0", x.cell(0, 0), 29);
        due("SALT of CELL 0", x.cell(0, 1), 95);
        due("WIDE of CELL 1", x.cell(1, 0), 29);
        due("SALT of CELL 1", x.cell(1, 1), 137);
        due("WIDE of CELL 2", x.cell(2, 0), 12);
        due("SALT of CELL 2", x.cell(2, 1), 84);
        due("no CELL of salt alone", x.count(1), 3);
        due("no drop of salt alone", x.count(5), 0);
    }

    private static void behindTheTip() {
        says("3", "DROP or more: it drips (DRIPPED is more by it, 0 at first; DRIPS is 1 more)");
        IcicleRings x = new IcicleRings();
        due("DRIPPED at first", x.count(4), 0);
        due("DRIPS at first", x.count(5), 0);
        x.set(0, 50);
        x.ticks(1);
        due("DROP: DRIPPED", x.count(4), 50);
        due("DROP: DRIPS", x.count(5), 1);
        due("DROP: no CELL", x.count(1), 1);
        x.set(0, 51);
        x.ticks(1);
        due("more: DRIPPED", x.count(4), 101);
        due("more: DRIPS", x.count(5), 2);
        x.set(0, 1);
        x.set(4, 1);
        x.ticks(1);
        due("1 with DROP 1", x.count(4), 102);
        due("no CELL", x.count(1), 1);

        says("3", "else, if it isn't 0, it is a new CELL below (WIDE that, SALT all salt that is left)");
        IcicleRings y = new IcicleRings();
        y.set(1, 3);
        y.set(0, 49);
        y.ticks(1);
        due("one less than DROP: a CELL", y.count(1), 2);
        due("its WIDE", y.cell(1, 0), 49);
        due("its SALT", y.cell(1, 1), 147);
        due("it doesn't drip", y.count(5), 0);
        y.set(0, 1);
        y.ticks(1);
        due("1: a CELL", y.count(1), 3);
        due("its WIDE", y.cell(2, 0), 1);
        y.set(0, 0);
        y.ticks(1);
        due("0: none", y.count(1), 3);
        due("0: no drop", y.count(5), 0);
        y.set(4, 999);
        y.set(1, 99);
        y.set(0, 998);
        y.ticks(1);
        due("the widest: a CELL", y.cell(3, 0), 998);
        due("its SALT", y.cell(3, 1), 998 * 99);
        y.set(0, 999);
        y.ticks(1);
        due("999 drips", y.count(4), 999);

        says("3", "if there is room (else it drips)");
        IcicleRings z = icicle(new int[40]);
        z.set(0, 1);
        z.ticks(1);
        due("no room: DRIPPED", z.count(4), 1);
        due("no room: DRIPS", z.count(5), 1);
        due("no room: no CELL", z.count(1), 40);
        z.set(0, 0);
        z.ticks(1);
        due("0 doesn't drip", z.count(5), 1);

        says("3", "Salt that drips is off.");
        IcicleRings s = new IcicleRings();
        s.set(1, 99);
        s.ticks(3);
        due("no SALT", s.then(0, 6), 0);
        due("no SALT in the next CELL", saltAfterDrip(s), 49 * 99);

        says("3", "NOW is 1 more.");
        due("after 1", new IcicleRings().ticks(1), 1);
        due("after 100", new IcicleRings().ticks(100), 100);
    }

    private static int saltAfterDrip(IcicleRings s) {
        s.set(0, 49);
        s.ticks(1);
        return s.cell(1, 1);
    }

    private static void massAndRings() {
        says("3", "MASS: WIDE of all CELLS together, and SALT of all by 1000.");
        IcicleRings x = icicle(10, 20);
        x.shape(0, 1, 500);
        x.shape(1, 1, 499);
        due("999 of SALT", x.mass(), 30);
        x.shape(1, 1, 500);
        due("1000 of SALT", x.mass(), 31);
        IcicleRings all = icicle(new int[40]);
        for (int i = 0; i < 40; i++) {
            all.shape(i, 0, 99999);
            all.shape(i, 1, 999999);
        }
        due("the most", all.mass(), 40 * 99999 + 39999);
        due("all SALT", all.then(0, 6), 39999960);

        says("3", "It HANGS, if MASS is no more than BEARS.");
        IcicleRings y = new IcicleRings();
        y.set(5, 10);
        due("as much", y.breaks(0), NONE);
        y.set(5, 9);
        due("more", y.breaks(0), 0);
        y.set(5, 11);
        due("less", y.breaks(0), NONE);

        says("3", "RINGS: CELLS that STAND OUT above 0, with those above and below (that are there) STANDING OUT less.");
        due("a single CELL stands out 0", new IcicleRings().ring(-1), 0);
        due("none above 0", icicle(10, 10, 10, 10).ring(-1), 0);
        due("above 0 by 1", icicle(10, 11).ring(0), 1);
        due("alike beside each other", icicle(0, 30, 30, 0).ring(-1), 0);
        due("alike, but not beside", icicle(0, 30, 0, 30, 0).ring(-1), 2);
        due("the roof", icicle(11, 10).ring(0), 0);
        due("the tip", icicle(10, 10, 11).ring(0), 2);
        due("more below", icicle(60, 40, 10).ring(-1), 1);
        // -15, 15, 15, -15: 15 above isn't less
        due("as much above", icicle(0, 15, 15, 0).ring(-1), 0);
        // 10, 40, 45, 10: -30, 25, 40, -35
        due("less above only", icicle(10, 40, 45, 10).ring(-1), 1);
        due("the greater", icicle(10, 40, 45, 10).ring(0), 2);

        says("3", "APART: from the first RING to the last one, by one less than there are RINGS (NONE with fewer than two).");
        due("none", new IcicleRings().apart(), NONE);
        due("one", icicle(10, 40).apart(), NONE);
        due("two", icicle(10, 40, 10, 30).apart(), 2);
        due("three", icicle(30, 10, 30, 10, 30).apart(), 2);
    }

    private static void ahead() {
        says("3", "PACE by n: with as many RINGS now as AHEAD by n: places of RINGS then less those now, all together; "
            + "NONE if not as many, or none.");
        due("none", new IcicleRings().pace(0), NONE);
        due("by 0", icicle(10, 40, 10).pace(0), 0);
        IcicleRings more = icicle(10, 40, 10);
        more.set(0, 40);
        due("more then", more.pace(1), NONE);
        IcicleRings fewer = icicle(10, 15);
        fewer.set(0, 5);
        fewer.cause(0, 99);
        due("fewer then", fewer.pace(1), NONE);
        IcicleRings up = icicle(10, 30);
        up.set(0, 30);
        up.cause(0, 99);
        up.cause(0, 99);
        due("up the icicle", up.pace(1), -1);

        says("3", "AHEAD by n (0 to 60) TICKS: as if so many went by (beyond 9999, too).");
        IcicleRings x = new IcicleRings();
        x.sheet(0, 8, 1);
        x.box(0, 0, 0);
        for (int n : new int[] {-1, 61, MIN, MAX}) {
            due("then " + n, x.then(n, 0), BEYOND);
            due("wide " + n, x.wide(n, 0), BEYOND);
            due("pace " + n, x.pace(n), BEYOND);
            due("needed " + n, x.needed(n), BEYOND);
            due("little " + n, x.little(n, 0), BEYOND);
            due("breaks " + n, x.breaks(n), BEYOND);
            due("falls " + n, x.falls(n), BEYOND);
            due("made " + n, x.made(0, n, 0), BEYOND);
            due("blown " + n, x.blown(0, n), BEYOND);
            due("tries " + n, x.tries(n), BEYOND);
            due("check " + n, x.check(n), BEYOND);
        }
        for (int n : new int[] {0, 60}) {
            due("then " + n, x.then(n, 4), n);
            due("wide " + n, x.wide(n, 0), 10);
            due("pace " + n, icicle(10, 40).pace(n), 0);
            due("needed " + n, x.needed(n), 0);
            due("little " + n, x.little(n, 0), 0);
            due("breaks " + n, x.breaks(n), NONE);
            due("falls " + n, x.falls(n), 99);
            due("made " + n, x.made(0, n, 1), 10);
            due("blown " + n, x.blown(0, n), 0);
            due("tries " + n, x.tries(n), 0);
            due("check " + n, x.check(n), 0);
        }
        due("nothing has gone by", x.count(0) + x.count(4), 0);
        IcicleRings y = new IcicleRings();
        y.set(0, 0);
        Checks.toTick(y, 9999);
        textOf(y, 0, "(t-9998)*100");
        due("the TICKS 9999, 10000, 10001", y.then(3, 3), 100 + 200 + 300);
        due("by 60", y.then(60, 4), 60);
        due("NOW stays", y.count(0), 9999);
    }

    private static void needs() {
        says("3", "NEEDED by n: CAUSES that are on without which (off) there would be fewer RINGS AHEAD by n.");
        IcicleRings x = icicle(10, 10, 10);
        x.set(0, 50);
        for (int i = 0; i < 5; i++) {
            x.cause(0, 0);
        }
        due("none is needed", x.needed(1), 0);
        x.cause(1, 25);
        due("the sixth", x.needed(1), 32);
        due("by 0 none is", x.needed(0), 0);
        x.turn(5, 0);
        due("one that is off isn't", x.needed(1), 0);
        // without the CAUSE there would be more RINGS, not fewer
        IcicleRings y = new IcicleRings();
        y.set(0, 40);
        y.cause(1, 99);
        due("as it is", y.then(1, 1), 0);
        due("more without it", y.needed(1), 0);
        due("no CAUSES", new IcicleRings().needed(60), 0);

        says("3", "LITTLE for r RINGS by n: the least SALTY (0 to 99) with which there are r or more AHEAD by n.");
        IcicleRings z = new IcicleRings();
        due("for 0", z.little(60, 0), 0);
        due("for more than there are", z.little(60, 1), NONE);
        IcicleRings s = new IcicleRings();
        s.set(0, 11);
        s.set(3, 99);
        s.cause(2, 50);
        s.cause(4, 1);
        due("the most", s.little(1, 1), 99);
        s.set(1, 99);
        due("SALTY as told doesn't matter", s.little(1, 1), 99);
        IcicleRings five = icicle(30, 10, 30, 10, 30);
        due("r or more: 2 of 3", five.little(0, 2), 0);
        due("r or more: 3 of 3", five.little(0, 3), 0);
        due("r or more: 4 of 3", five.little(0, 4), NONE);
    }

    private static void hanging() {
        says("3", "BREAKS: after how many TICKS it doesn't HANG for the first time (0: now).");
        IcicleRings x = new IcicleRings();
        x.set(0, 20);
        x.set(5, 50);
        // MASS 10, 30, 50, 70
        due("after the last", x.breaks(3), 3);
        due("one sooner", x.breaks(2), NONE);
        due("by 60", x.breaks(60), 3);
        x.set(5, 0);
        due("now", x.breaks(0), 0);
        due("now, for the first time", x.breaks(60), 0);
        x.set(5, 10 + 39 * 20);
        due("40 CELLS weigh no more", x.breaks(60), NONE);
        x.set(5, 10 + 39 * 20 - 1);
        due("with the 40th CELL", x.breaks(60), 39);
        x.set(0, 1);
        x.cause(0, 99);
        x.set(5, 69);
        due("after all 60", x.breaks(60), 60);
        due("not after 59", x.breaks(59), NONE);

        says("3", "LENGTH, as many CELLS.");
        due("at first", new IcicleRings().then(0, 0), 1);
        due("the most", icicle(new int[40]).then(60, 0), 40);

        says("3", "FALLS by n: the greatest COLD (a SETTING, -50 to 99) with which it HANGS all TICKS up to n (n of them, now too).");
        IcicleRings y = new IcicleRings();
        y.cause(0, 99);
        due("the greatest", y.falls(60), 99);
        y.set(5, 107);
        // 99 * COLD by 100 freezes: 98 with 99, 97 with 98
        due("by 1", y.falls(1), 98);
        due("by 0 there is none yet", y.falls(0), 99);
        y.set(5, 108);
        due("as much as it bears", y.falls(1), 99);
        y.set(5, 10);
        due("nothing freezes", y.falls(60), 1);
        y.set(5, 9);
        due("now too", y.falls(60), NONE);
        due("now too", y.falls(0), NONE);
        y.set(5, 10);
        textOf(y, 1, "c+51");
        due("the least by one TICK", y.falls(1), -50);
        textOf(y, 1, "c+52");
        due("not even the least", y.falls(1), NONE);
        y.set(2, 7);
        due("COLD stays", y.falls(0) + y.set(2, 7), 99 + 7);
        // more COLD makes no CELL below, less does: it falls with the middle alone
        IcicleRings z = new IcicleRings();
        z.cause(0, 99);
        z.set(0, 90);
        z.set(4, 90);
        z.set(5, 50);
        // with COLD 1 nothing freezes and all 90 drip; with more a CELL of what is left hangs on
        due("the greatest of a few", z.falls(1), 1);
    }

    // ---- 3: PICTURES, BOXES, DRAWS, VOICES

    private static void pictures() {
        says("3", "OFF by a PICTURE: differences of WIDE and its numbers (0 for CELLS, for numbers that aren't there), "
            + "without sign, each held at 1000000, together.");
        IcicleRings x = icicle(10, 20);
        Checks.picture(x, 0);
        due("no numbers", x.off(0), 30);
        Checks.picture(x, 0, 10, 20, 5, -6);
        due("no CELLS", x.off(0), 11);
        Checks.picture(x, 0, 15, 15);
        due("without sign", x.off(0), 10);
        Checks.picture(x, 0, 1000009, 20);
        due("just below", x.off(0), 999999);
        Checks.picture(x, 0, 1000010, 20);
        due("just as much", x.off(0), 1000000);
        Checks.picture(x, 0, 1000011, 20);
        due("just above", x.off(0), 1000000);
        Checks.picture(x, 0, -999990, 20);
        due("below 0 as much", x.off(0), 1000000);
        Checks.picture(x, 0, -999991, 20);
        due("below 0 above", x.off(0), 1000000);
        Checks.picture(x, 0, MIN, MAX);
        due("the ends of ints", x.off(0), 2000000);
        int[] far = new int[40];
        java.util.Arrays.fill(far, MIN);
        Checks.picture(x, 0, far);
        due("all 40", x.off(0), 40000000);

        says("3", "MADE by a PICTURE: of all sets of CAUSES (on, the others off) in n TICKS from TICK 0, ONE CELL as at first, "
            + "on that by which it is OFF least; of several the least as bits.");
        IcicleRings y = icicle(5, 5, 5);
        Checks.picture(y, 0, 10);
        due("no CAUSES: none on", y.made(0, 60, 0), 0);
        due("no CAUSES: OFF", y.made(0, 60, 1), 0);
        for (int i = 0; i < 6; i++) {
            y.cause(0, 5);
            y.turn(i, i % 2);
        }
        // each freezes 1
        Checks.picture(y, 0, 16);
        due("all six", y.made(0, 1, 0), 63);
        Checks.picture(y, 0, 13);
        due("three: the least as bits", y.made(0, 1, 0), 7);
        due("by 0 all alike: none on", y.made(0, 0, 0), 0);
        due("by 0: OFF", y.made(0, 0, 1), 3);
        Checks.picture(y, 0, 0);
        due("0 and less are as far", y.made(0, 1, 0), 0);
        Checks.picture(y, 0, 99);
        due("all is too little", y.made(0, 1, 1), 83);
        due("NOW stays", y.count(0), 2);
        due("CELLS stay", y.count(1), 3);
        due("they are on and off as before", y.ofCause(0, 2) * 10 + y.ofCause(1, 2), 1);

        says("3", "BLOWN: the WIND (0 to 99) likewise (CAUSES as they are), of several the least.");
        IcicleRings z = icicle(5, 5, 5);
        Checks.picture(z, 0, 10);
        due("no CAUSES: all alike", z.blown(0, 60), 0);
        z.cause(2, 50);
        // 10 and WIND freeze
        Checks.picture(z, 0, 20);
        due("the least", z.blown(0, 1), 0);
        Checks.picture(z, 0, 119);
        due("the most", z.blown(0, 1), 99);
        Checks.picture(z, 0, 118);
        due("the most but one", z.blown(0, 1), 98);
        Checks.picture(z, 0, MAX);
        due("all held: the least", z.blown(0, 1), 0);
        Checks.picture(z, 0, 9999);
        due("far above", z.blown(0, 1), 99);
        due("by 0 all alike", z.blown(0, 0), 0);
        z.cause(2, 5);
        // 10 * (10 + WIND) by 10 and 1 * (10 + WIND) by 10: 21, 22, .. the second grows by 1 with ten of WIND
        z.turn(0, 0);
        Checks.picture(z, 0, 13);
        due("several: the least", z.blown(0, 1), 20);
        z.turn(1, 0);
        due("off as they are", z.blown(0, 1), 0);
    }

    private static void boxes() {
        says("3", "BOXES 0, 1, .. (at most 5): COLD, WIND, SALTY told.");
        IcicleRings x = new IcicleRings();
        due("none at first", x.count(3), 0);
        for (int i = 0; i < 5; i++) {
            due("one more", x.box(0, 0, 0), i);
        }
        due("no more", x.box(0, 0, 0), FULL);
        due("there are five", x.count(3), 5);

        says("3", "TRY by n: the BOX in which most pairs of single CAUSES");
        IcicleRings y = new IcicleRings();
        y.box(99, 99, 99);
        y.box(99, 99, 99);
        due("no CAUSES", y.tries(60), 0);
        y.cause(2, 99);
        due("no pairs", y.tries(60), 0);
        y.cause(2, 99);
        due("pairs alike", y.tries(60), 0);
        y.cause(2, 98);
        due("as many in both", y.tries(60), 0);
        y.box(0, 0, 0);
        due("fewer in the last", y.tries(60), 0);
        IcicleRings z = new IcicleRings();
        z.cause(2, 99);
        z.cause(0, 99);
        for (int i = 0; i < 5; i++) {
            z.box(99, i == 4 ? 1 : 0, 0);
        }
        due("most in the fifth", z.tries(1), 4);
        due("by 0 none", z.tries(0), 0);

        says("3", "(LENGTH or some WIDE); of several the least.");
        IcicleRings t = new IcicleRings();
        t.cause(2, 99);
        t.cause(0, 99);
        t.box(99, 0, 0);
        t.box(99, 1, 0);
        t.box(99, 2, 0);
        due("the second and the third", t.tries(1), 1);
        t.cause(5, 99);
        due("two pairs in each", t.tries(1), 1);
        t.box(-50, 99, 99);
        due("none in the last", t.tries(1), 1);
        // CAUSES that aren't there make no pairs: 1 and 1 freeze in BOX 0, 0 and 1 in BOX 1
        IcicleRings few = new IcicleRings();
        few.cause(0, 19);
        few.cause(0, 20);
        few.box(6, 0, 0);
        few.box(5, 0, 0);
        due("two CAUSES are one pair", few.tries(1), 1);

        says("3", "give unlike CELLS (LENGTH or some WIDE)");
        // CELL 1 comes in TICK 0; 12 times CELL 0 takes all 87; then it grows until WIDE is held, by either CAUSE; in
        // the last TICK, of 9089, the lesser one freezes 87 and 8999 and leaves 3
        IcicleRings u = new IcicleRings();
        textOf(u, 1, "(t>0)*c");
        textOf(u, 0, "(t=0)*4+(t>0)*87+(t>12)*9912-(t=59)*910");
        u.set(4, 5);
        u.cause(3, 9);
        u.cause(3, 10);
        u.box(-50, 0, 0);
        due("alike in the one BOX", u.tries(60), 0);
        u.box(99, 99, 0);
        due("LENGTH alone is unlike in the other", u.tries(60), 1);
        lengthAlone(u);

        says("3", "(each of them on alone, in that BOX, from ONE CELL as at first in n TICKS from TICK 0 on)");
        IcicleRings v = icicle(5, 5, 5);
        v.cause(6, 10);
        v.cause(1, 10);
        v.turn(0, 0);
        v.turn(1, 0);
        v.box(-50, 0, 0);
        v.box(0, 0, 0);
        // with COLD 0 FORKED freezes 10 in TICK 0; with -50 neither does: 10 less 50
        due("from TICK 0 on", v.tries(1), 1);
        due("CELLS stay", v.count(1), 3);
        due("off as before", v.ofCause(0, 2) + v.ofCause(1, 2), 0);
        due("COLD stays", v.set(2, 20), 20);
    }

    /** That the two CAUSES of that BOX give the same WIDE, but for one CELL more. */
    private static void lengthAlone(IcicleRings u) {
        u.set(2, 99);
        u.set(3, 99);
        u.turn(1, 0);
        due("held", u.wide(60, 0), 99999);
        due("CELL 1", u.wide(60, 1), 4);
        due("a third", u.wide(60, 2), 3);
        due("no fourth", u.wide(60, 3), NONE);
        u.turn(1, 1);
        u.turn(0, 0);
        due("held", u.wide(60, 0), 99999);
        due("CELL 1", u.wide(60, 1), 4);
        due("no third", u.wide(60, 2), NONE);
    }

    private static void draws() {
        says("3", "DRAWS: z is told (1 at first); each makes it z * 1103515245 + 12345 (an int), and gives z >>> 8.");
        IcicleRings x = new IcicleRings();
        due("at first", x.count(9), 1);
        x.cause(2, 50);
        x.seed(2);
        x.gusts(1);
        // 2207042835 is below 0 as an int; without sign by 256 it is 8621261: WIND 61
        due("goes round", x.count(9), -2087924461);
        due("without sign", x.cell(0, 0), 10 + 71);
        x.seed(0);
        x.gusts(1);
        // 12345 by 256 is 48
        due("from 0", x.count(9), 12345);
        due("WIND 48", x.cell(0, 0), 81 + 58);
        x.seed(MIN);
        x.gusts(1);
        // the least times an odd number is the least
        due("from the least", x.count(9), MIN + 12345);
        due("WIND 56", x.cell(0, 0), 139 + 10 + (MIN + 12345 >>> 8) % 100);

        says("3", "A GUSTY TICK: WIND is a draw's rest by 100 for that TICK alone.");
        IcicleRings y = new IcicleRings();
        y.cause(2, 50);
        y.set(3, 5);
        y.seed(2);
        y.gusts(1);
        due("WIND 61", y.cell(0, 0), 10 + 71);
        due("then as it was", y.freezes(0, 0, 0, 0), 15);
        y.ticks(1);
        due("then as it was", y.cell(0, 0), 81 + 15);
        due("AHEAD isn't gusty", y.wide(1, 0), 96 + 15);
        due("the SETTING stays", y.set(3, 5), 5);
    }

    private static void voices() {
        says("3", "VOICES of a CAUSE, with a number x (ints that go round)");
        IcicleRings x = new IcicleRings();
        x.cause(0, 99);
        x.cause(3, 99);
        x.cause(4, 99);
        due("runs", x.voice(1, 0, MAX), (MIN + 1) * 3);
        due("runs of a CAUSE", x.voice(0, 0, MAX), MAX);
        due("chills", x.voice(0, 1, 1 << 30), MIN);
        due("moves", x.voice(0, 2, MIN), MIN + -99);
        due("moves of a RINGED", x.voice(1, 2, MIN + 99), MIN);
        due("tells", x.voice(0, 3, MIN), MIN + -99);
        due("an answer that looks like an ERROR", x.voice(0, 0, -1000000001), -1000000001);
        due("is none", x.told(1), 0);

        says("3", "runs(..) is the BODY of its KIND, or of the next KIND above that has one; super.runs(..) that from the KIND "
            + "above the BODY's on.");
        int[][] traces = {{10}, {10}, {30, 10}, {41, 30, 10}, {41, 30, 10}, {10}, {10}};
        int[][] movesTraces = {{12}, {12}, {12}, {40, 12}, {40, 12}, {60, 12}, {12}};
        int[][] chillsTraces = {{11, 10}, {20, 11, 10, 12}, {11, 30, 10}, {11, 41, 30, 10}, {11, 41, 30, 10}, {11, 10},
            {70, 20, 11, 10, 12}};
        for (int kind = 0; kind < 7; kind++) {
            traced(kind, 0, traces[kind]);
            traced(kind, 1, chillsTraces[kind]);
            traced(kind, 2, movesTraces[kind]);
        }

        says("3", "THE TRACE: the numbers of BODIES of the latest voice(), as they began "
            + "(what stands left is worked out first), the first 40.");
        IcicleRings y = new IcicleRings();
        due("none before", y.count(8), 0);
        due("none before", y.trace(0), NONE);
        y.cause(6, 1);
        y.voice(0, 3, 1);
        // the longest there is: 71, 70, 20, 11, 10, 12, 13, 70, 20, 11, 10, 12, 12
        due("the longest", y.count(8), 13);
        due("its first", y.trace(0), 71);
        due("left first", y.trace(1), 70);
        due("its last", y.trace(12), 12);
        due("none behind", y.trace(13), NONE);
        y.voice(0, 2, 1);
        due("the latest alone", y.count(8), 1);
        due("the latest alone", y.trace(1), NONE);
        y.voice(1, 0, 0);
        due("a refused one leaves it", y.count(8), 1);
    }

    private static void traced(int kind, int act, int[] want) {
        IcicleRings x = new IcicleRings();
        x.cause(kind, 3);
        x.voice(0, act, 5);
        due("KIND " + kind + " act " + act, x.count(8), want.length);
        for (int i = 0; i < want.length; i++) {
            due("KIND " + kind + " act " + act + " place " + i, x.trace(i), want[i]);
        }
    }

    private static void sheets() {
        says("4", "SHEETS 0 .. 3 are rows of 8, 16, 32 bits, at most 40 numbers, or missing (as at first).");
        IcicleRings x = new IcicleRings();
        for (int i = 0; i < 4; i++) {
            due("missing at first", x.draw(i), NONE);
        }
        due("no fifth", x.draw(4), BEYOND);
        due("none below", x.draw(-1), BEYOND);
        for (int bits : new int[] {8, 16, 32}) {
            due("40 numbers", x.sheet(3, bits, 40), 1);
            due("the last", x.put(3, 39, 1), 1);
            due("none behind it", x.put(3, 40, 1), BEYOND);
            due("no numbers", x.sheet(3, bits, 0), 1);
            due("not even one", x.put(3, 0, 1), BEYOND);
            due("41 numbers", x.sheet(3, bits, 41), BEYOND);
            due("it stays", x.draw(3), 0);
        }
    }

    public static void main(String[] args) {
        errors();
        quotients();
        ticksAndCells();
        theTip();
        settings();
        standsOut();
        causes();
        freezes();
        leaningAndForked();
        tapeAndNumbers();
        open();
        grammar();
        wraps();
        faults();
        uses();
        tick();
        goesOn();
        behindTheTip();
        massAndRings();
        ahead();
        needs();
        hanging();
        pictures();
        boxes();
        draws();
        voices();
        sheets();
        Checks.end();
    }
}
