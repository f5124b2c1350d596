/** Each promise by itself: ordinary inputs, edges, wrong inputs; the answers were worked out by hand. */
public final class PromisesTest {
    private static final int BEYOND = Checks.BEYOND;
    private static final int NONE = Checks.NONE;
    private static final int STATE = Checks.STATE;
    private static final int FULL = Checks.FULL;
    private static final int KIND = Checks.KIND;
    private static final int MIN = Integer.MIN_VALUE;
    private static final int MAX = Integer.MAX_VALUE;

    private static void due(String what, long got, long want) {
        Checks.due(what, got, want);
    }

    private static IcicleRings icicle(int... wides) {
        return Checks.icicle(wides);
    }

    private static void picture(IcicleRings x, int sheet, int... numbers) {
        Checks.picture(x, sheet, numbers);
    }

    private static int textOf(IcicleRings x, int use, String text) {
        return Checks.textOf(x, use, text);
    }

    private static void p1() {
        IcicleRings x = new IcicleRings();
        int[] counts = {0, 1, 0, 0, 0, 0, 0, 0, 0, 1};
        for (int i = 0; i < counts.length; i++) {
            due("1 count " + i, x.count(i), counts[i]);
        }
        for (int k = 1; k < 6; k++) {
            due("1 told " + k, x.told(k), 0);
        }
        due("1 wide", x.cell(0, 0), 10);
        due("1 salt", x.cell(0, 1), 0);
        int[] settings = {200, 0, 20, 0, 50, 100000};
        for (int i = 0; i < settings.length; i++) {
            due("1 setting " + i, x.set(i, settings[i]), settings[i]);
        }
        for (int i = 0; i < 4; i++) {
            due("1 sheet " + i, x.off(i), NONE);
        }
        due("1 image", x.restore(), NONE);
        due("1 trace", x.trace(0), NONE);
    }

    private static void p2() {
        IcicleRings x = icicle(10, 40, 10, 30);
        int[] outs = {-30, 60, -50, 20};
        int[] wides = {10, 40, 10, 30};
        for (int i = 0; i < 4; i++) {
            due("2 wide " + i, x.cell(i, 0), wides[i]);
            due("2 salt " + i, x.cell(i, 1), 0);
            due("2 out " + i, x.cell(i, 2), outs[i]);
        }
        int[][] wrong = {{-1, 0}, {4, 0}, {40, 0}, {MIN, 0}, {MAX, 0}, {0, -1}, {0, 3}, {0, MIN}, {0, MAX}};
        for (int[] w : wrong) {
            due("2 wrong", x.cell(w[0], w[1]), BEYOND);
        }
    }

    private static void p3() {
        IcicleRings x = icicle(10, 20);
        due("3 wide", x.shape(1, 0, 99999), 20);
        due("3 wide again", x.shape(1, 0, 0), 99999);
        due("3 salt", x.shape(1, 1, 999999), 0);
        due("3 salt again", x.shape(1, 1, 0), 999999);
        due("3 the other stays", x.cell(0, 0), 10);
        int[][] wrong = {{2, 0, 1}, {-1, 0, 1}, {0, 2, 1}, {0, -1, 1}, {0, 0, 100000}, {0, 0, -1}, {0, 1, 1000000},
            {0, 1, -1}, {0, 0, MIN}, {MAX, 0, 0}};
        for (int[] w : wrong) {
            due("3 wrong", x.shape(w[0], w[1], w[2]), BEYOND);
        }
        due("3 unchanged", x.cell(0, 0), 10);
        due("3 unchanged salt", x.cell(0, 1), 0);
    }

    private static void p4() {
        IcicleRings x = icicle(10, 20, 30);
        picture(x, 0, 5, 6, 100000, 7);
        due("4 up to one too great", x.cells(0), 2);
        due("4 cell 0", x.cell(0, 0), 5);
        due("4 cell 1", x.cell(1, 0), 6);
        due("4 cell 2 stays", x.cell(2, 0), 30);
        picture(x, 1, 99999, 0, 8, 9, 9);
        due("4 no more than CELLS", x.cells(1), 3);
        due("4 edge", x.cell(0, 0), 99999);
        due("4 nought", x.cell(1, 0), 0);
        due("4 no new CELLS", x.count(1), 3);
        picture(x, 2, -1, 4);
        due("4 below 0 at once", x.cells(2), 0);
        due("4 stays", x.cell(1, 0), 0);
        x.sheet(2, 8, 0);
        due("4 without numbers", x.cells(2), 0);
        x.sheet(2, 8, 2);
        x.put(2, 0, 200);
        due("4 8 bits with a sign", x.cells(2), 0);
        due("4 missing", x.cells(3), NONE);
        due("4 no such", x.cells(4), BEYOND);
        due("4 no such below", x.cells(-1), BEYOND);
    }

    private static void p5() {
        IcicleRings x = new IcicleRings();
        int[][] edges = {{0, 9999}, {0, 99}, {-50, 99}, {0, 99}, {1, 999}, {0, 9999999}};
        for (int i = 0; i < 6; i++) {
            x.set(i, edges[i][0]);
            due("5 least " + i, x.set(i, edges[i][1]), edges[i][0]);
            due("5 too small " + i, x.set(i, edges[i][0] - 1), BEYOND);
            due("5 too great " + i, x.set(i, edges[i][1] + 1), BEYOND);
            due("5 far " + i, x.set(i, MIN), BEYOND);
            due("5 most " + i, x.set(i, edges[i][0]), edges[i][1]);
        }
        due("5 no such", x.set(6, 1), BEYOND);
        due("5 no such below", x.set(-1, 1), BEYOND);
    }

    private static void p6() {
        IcicleRings x = new IcicleRings();
        due("6 kind", x.cause(7, 0), BEYOND);
        due("6 kind below", x.cause(-1, 0), BEYOND);
        due("6 m", x.cause(0, 100), BEYOND);
        due("6 m below", x.cause(0, -1), BEYOND);
        for (int i = 0; i < 6; i++) {
            due("6 number", x.cause(i + 1, i == 0 ? 99 : 0), i);
        }
        due("6 full", x.cause(0, 0), FULL);
        due("6 beyond ahead of full", x.cause(7, 0), BEYOND);
        due("6 count", x.count(2), 6);
    }

    private static void p7() {
        IcicleRings x = new IcicleRings();
        x.cause(5, 33);
        due("7 kind", x.ofCause(0, 0), 5);
        due("7 m", x.ofCause(0, 1), 33);
        due("7 on", x.ofCause(0, 2), 1);
        x.turn(0, 0);
        due("7 off", x.ofCause(0, 2), 0);
        due("7 what", x.ofCause(0, 3), BEYOND);
        due("7 what below", x.ofCause(0, -1), BEYOND);
        due("7 no such", x.ofCause(1, 0), BEYOND);
        due("7 no such below", x.ofCause(-1, 0), BEYOND);
    }

    private static void p8() {
        String[] under = {"0", "01", "02", "023", "0234", "05", "016"};
        for (int kind = 0; kind < 7; kind++) {
            IcicleRings x = new IcicleRings();
            x.cause(kind, 40 + kind);
            for (int as = 0; as < 7; as++) {
                boolean is = under[kind].indexOf('0' + as) >= 0;
                due("8 " + kind + " as " + as, x.as(0, as), is ? 40 + kind : KIND);
            }
            due("8 kind", x.as(0, 7), BEYOND);
            due("8 kind below", x.as(0, -1), BEYOND);
            due("8 no such", x.as(1, 0), BEYOND);
            due("8 no such below", x.as(MIN, 0), BEYOND);
        }
    }

    private static void p9() {
        IcicleRings x = new IcicleRings();
        x.cause(2, 50);
        x.cause(2, 10);
        due("9 off", x.turn(0, 0), 1);
        due("9 off again", x.turn(0, 0), 0);
        due("9 the other is on", x.ofCause(1, 2), 1);
        x.ticks(1);
        due("9 only the other freezes", x.cell(0, 0), 12);
        due("9 on", x.turn(0, 1), 0);
        x.ticks(1);
        due("9 both freeze", x.cell(0, 0), 24);
        due("9 on 2", x.turn(0, 2), BEYOND);
        due("9 on -1", x.turn(0, -1), BEYOND);
        due("9 no such", x.turn(2, 0), BEYOND);
        due("9 no such below", x.turn(-1, 0), BEYOND);
    }

    private static void p10() {
        IcicleRings x = icicle(10, 40, 10, 30);
        x.set(2, 37);
        x.set(3, 30);
        for (int kind = 0; kind < 6; kind++) {
            x.cause(kind, 45);
        }
        int[][] want = {{16, 16, 16, 16}, {0, 0, 0, 160}, {64, 64, 64, 64}, {51, 91, 42, 73},
            {51 - 642, 91 - 642, 42 - 642, 73 - 642}, {16, 32, 16, 32}};
        for (int c = 0; c < 6; c++) {
            for (int i = 0; i < 4; i++) {
                due("10 kind " + c + " at " + i, x.freezes(c, i, 7, 100), want[c][i]);
            }
        }
        x.turn(2, 0);
        due("10 off all the same", x.freezes(2, 0, 7, 100), 64);
        due("10 no water is 1", x.freezes(4, 1, 0, 3), 91 - 135);
        due("10 most", x.freezes(4, 1, 1, 999999), 91 - 44999955);
        due("10 no salt", x.freezes(4, 1, 5, 0), 91);
        x.set(3, 20);
        due("10 leaning needs more wind", x.freezes(5, 1, 1, 1), 16);
        x.set(3, 21);
        due("10 leaning", x.freezes(5, 1, 1, 1), 32);
        x.set(2, -37);
        due("10 below 0 is cut toward 0", x.freezes(0, 0, 1, 1), -16);
        due("10 side below 0", x.freezes(2, 0, 1, 1), -49);
        int[][] wrong = {{6, 0, 1, 1}, {-1, 0, 1, 1}, {0, 4, 1, 1}, {0, -1, 1, 1}, {0, 0, -1, 1}, {0, 0, 1000000, 1},
            {0, 0, 1, -1}, {0, 0, 1, 1000000}};
        for (int[] w : wrong) {
            due("10 wrong", x.freezes(w[0], w[1], w[2], w[3]), BEYOND);
        }
    }

    private static void p10Forked() {
        IcicleRings x = icicle(10, 20);
        x.cause(6, 45);
        x.set(2, 37);
        x.turn(0, 0);
        for (int now = 1; now < 15; now++) {
            due("10 forked at the tip, NOW " + now, x.freezes(0, 1, 1, 1), now % 7 == 0 ? 205 : 160);
            due("10 forked elsewhere", x.freezes(0, 0, 1, 1), 0);
            x.ticks(1);
        }
        textOf(x, 1, "t");
        due("10 the COLD of NOW", x.freezes(0, 1, 1, 1), 45 * 15 / 100 * 10);
    }

    private static void p11() {
        IcicleRings x = new IcicleRings();
        due("11 n 0", x.feed(0, 0), BEYOND);
        due("11 n 9", x.feed(0, 9), BEYOND);
        due("11 n far", x.feed(0, MIN), BEYOND);
        for (int i = 1; i <= 6; i++) {
            due("11 fed", x.feed(0x3131313131313131L, 8), 8 * i);
        }
        due("11 full", x.feed(0, 3), FULL);
        due("11 beyond ahead of full", x.feed(0, 9), BEYOND);
        due("11 last room", x.feed(0, 2), 50);
        due("11 none left", x.feed(0, 1), FULL);
        due("11 count", x.count(6), 50);
        x.text(0);
        due("11 empty", x.count(6), 0);
        // the lowest byte comes first, those above n are left out
        due("11 order", x.feed(0x7F7F7F7F7F312D74L, 3), 3);
        due("11 a text", x.text(0), 1);
        due("11 t-1", x.law(0, 9, 0, 0), 8);
        x.feed(-1L, 8);
        due("11 bytes of 255", x.text(0), -10);
    }

    private static void p12() {
        String[] good = {"1", "9999", "0000", "t", "w+c", "1<2", "1=2|3>4&5", "!!!!!1", "(((((1)))))", "!(!(!1))",
            "!1+!1+!1+!1+!1+!1", "(1)+(1)+(1)+(1)+(1)+(1)", "(1<2)<(2<3)", "1<2&2<3", "1<2|2<3",
            "1+1+1+1+1+1+1+1+1+1+1+1+1+1+1+1+1+1+1+1+1+1+1+1+12", "!(1<2)=!t", "1*2/3%4-5"};
        IcicleRings x = new IcicleRings();
        for (String s : good) {
            due("12 " + s, textOf(x, 0, s), 1);
            due("12 tape", x.count(6), 0);
        }
        String[] bad = {"", "+", "h", "1+", "12345", "(1", "1)", "()", "1<2<3", "1<2=3", "(1<2<3)", "!!!!!!1",
            "((((((1))))))", "!(!(!(1)))", "1 +2", "tw", "t1", "1t", "1!", "(1)(", "1**2", "-1", "1+!", "(((((1))))",
            "1&|1", "T", "1<2+3*4>5", "(1+12345)", "!!!!!(1)", "1=(2=3)=4", "!"};
        int[] fault = {0, 0, 0, 2, 4, 2, 1, 1, 3, 3, 4, 5, 5, 5, 1, 1, 1, 1, 1, 3, 2, 0, 3, 10, 2, 0, 7, 7, 5, 7, 1};
        for (int i = 0; i < bad.length; i++) {
            due("12 '" + bad[i] + "'", textOf(x, 1, bad[i]), -10 - fault[i]);
            due("12 tape", x.count(6), 0);
        }
        due("12 no use changed", x.law(1, 1, 2, 3), 20);
        due("12 no errors", x.told(1) + x.told(2) + x.told(3) + x.told(4) + x.told(5), 0);
        x.feed('t', 1);
        due("12 use 2", x.text(2), BEYOND);
        due("12 use -1", x.text(-1), BEYOND);
        due("12 tape stays", x.count(6), 1);
        due("12 then it is read", x.text(1), 1);
        due("12 in place", x.law(1, 7, 2, 3), 7);
        due("12 a fault", textOf(x, 1, "c+"), -12);
        due("12 the one ahead stays", x.law(1, 7, 2, 3), 7);
        due("12 another in place", textOf(x, 1, "c"), 1);
        due("12 another", x.law(1, 7, 2, 3), 3);
    }

    private static void p13() {
        IcicleRings x = new IcicleRings();
        due("13 without a TEXT", x.law(0, 1, 2, 3), 200);
        due("13 without a TEXT", x.law(1, 1, 2, 3), 20);
        due("13 use 2", x.law(2, 1, 2, 3), BEYOND);
        due("13 use -1", x.law(-1, 1, 2, 3), BEYOND);
        String[] texts = {"t+w*c", "(t+w)*c", "w-t-t", "w/t/t", "100%w%t", "t<w", "w<t", "t=1", "t>w", "!t", "!0", "!!w",
            "0|w", "0|0", "t&w", "t&0", "1|0&0", "2+3<6", "w/0", "w%0", "!t+1", "(0-7)/2+10", "(0-7)%4+10", "t<w&w<c|0",
            "w-t+c", "w*c/2", "w/2*c", "0-5<3", "(t=1)+(w=5)+(c=7)", "w<5", "w>5", "w>4", "w=4"};
        int[] values = {1 + 5 * 7, 42, 3, 5, 0, 1, 0, 1, 0, 0, 1, 1, 1, 0, 1, 0, 1, 1, 0, 0, 1, 7, 7, 1, 11, 17, 14, 1, 3, 0, 0, 1, 0};
        for (int i = 0; i < texts.length; i++) {
            due("13 " + texts[i], textOf(x, 0, texts[i]), 1);
            due("13 value of " + texts[i], x.law(0, 1, 5, 7), values[i]);
        }
        textOf(x, 0, "t");
        due("13 held below", x.law(0, -1, 0, 0), 0);
        due("13 held above", x.law(0, 10000, 0, 0), 9999);
        due("13 far", x.law(0, MIN, 0, 0), 0);
        textOf(x, 1, "t/c");
        due("13 held below", x.law(1, -51, 0, 1), -50);
        due("13 held above", x.law(1, 100, 0, 1), 99);
        due("13 the least by -1 goes round", x.law(1, MIN, 0, -1), -50);
        textOf(x, 1, "t%c");
        due("13 its rest", x.law(1, MIN, 0, -1), 0);
        due("13 rest with the sign of what is divided", x.law(1, -7, 0, 4), -3);
        textOf(x, 1, "t*w");
        due("13 wraps", x.law(1, 65536, 65536, 0), 0);
    }

    private static void p14() {
        IcicleRings x = new IcicleRings();
        due("14 n 0", x.ticks(0), BEYOND);
        due("14 n 101", x.ticks(101), BEYOND);
        due("14 n far", x.ticks(MIN), BEYOND);
        x.set(0, 50);
        due("14 DROP itself drips", x.ticks(1), 1);
        due("14 dripped", x.count(4), 50);
        due("14 drips", x.count(5), 1);
        due("14 no new CELL", x.count(1), 1);
        x.set(0, 49);
        x.ticks(1);
        due("14 less than DROP is a CELL", x.count(1), 2);
        due("14 its WIDE", x.cell(1, 0), 49);
        due("14 it didn't drip", x.count(5), 1);
        x.set(0, 0);
        x.ticks(1);
        due("14 no water, no CELL", x.count(1), 2);
        due("14 no drip", x.count(5), 1);
        due("14 NOW", x.count(0), 3);
        x.set(0, 1);
        x.ticks(38);
        due("14 40 CELLS", x.count(1), 40);
        x.ticks(1);
        due("14 no room: it drips", x.count(4), 51);
        due("14 drips", x.count(5), 2);
        due("14 40 CELLS still", x.count(1), 40);
        IcicleRings y = new IcicleRings();
        y.set(0, 1);
        y.cause(0, 50);
        y.ticks(1);
        due("14 no more than the water", y.cell(0, 0), 11);
        due("14 nothing is left", y.count(1), 1);
    }

    private static void p14Salt() {
        IcicleRings x = new IcicleRings();
        x.set(0, 30);
        x.set(1, 10);
        x.cause(2, 50);
        x.ticks(1);
        // 300 of salt with 30 of water, 10 freezes: 300 * 10 / 60
        due("14 salt stays", x.cell(0, 1), 50);
        due("14 wide", x.cell(0, 0), 20);
        due("14 all salt left is in the new CELL", x.cell(1, 1), 250);
        due("14 its wide", x.cell(1, 0), 20);
        x.ticks(1);
        due("14 cell 0", x.cell(0, 1), 100);
        due("14 cell 1", x.cell(1, 1), 250 + 62);
        due("14 cell 1 wide", x.cell(1, 0), 30);
        due("14 cell 2", x.cell(2, 1), 188);
        due("14 cell 2 wide", x.cell(2, 0), 10);
        // all freezes at CELL 0: half of the salt stays, the rest is lost, no CELL grows
        x.set(2, 60);
        x.ticks(1);
        due("14 all freezes", x.cell(0, 1), 250);
        due("14 no more CELLS", x.count(1), 3);
        due("14 nothing below", x.cell(1, 1), 312);
        due("14 nothing drips", x.count(5), 0);
        // below 0 is 0
        x.set(2, -50);
        x.ticks(1);
        due("14 not below 0", x.cell(0, 0), 60);
        due("14 no salt", x.cell(0, 1), 250);
    }

    private static void p14Held() {
        IcicleRings x = new IcicleRings();
        for (int i = 0; i < 6; i++) {
            x.cause(2, 99);
        }
        x.set(0, 9999);
        x.set(1, 99);
        x.set(2, 99);
        x.set(3, 99);
        x.set(4, 1);
        x.ticks(1);
        // 98 * 109 / 10 = 1068, six times; 989901 * 6408 / 19998 is beyond ints on its way
        due("14 great freezes", x.cell(0, 0), 10 + 6408);
        due("14 great salt", x.cell(0, 1), 989901L * 6408 / 19998);
        x.shape(0, 0, 99998);
        x.shape(0, 1, 999998);
        x.ticks(1);
        due("14 WIDE is held", x.cell(0, 0), 99999);
        due("14 SALT is held", x.cell(0, 1), 999999);
        due("14 what drips is as if not held", x.count(4), 2 * (9999 - 6408));
    }

    /** WIDE of those above is anew, of those below as it was. */
    private static void p14Order() {
        IcicleRings x = icicle(10, 10, 10);
        x.set(2, 0);
        x.cause(3, 50);
        x.shape(0, 0, 40);
        x.ticks(1);
        // CELL 0 stands out 30: 15 freeze; CELL 1: 20 - 55 - 10 < 0; CELL 2: 20 - 10 - 10 = 0
        due("14 cell 0", x.cell(0, 0), 55);
        due("14 cell 1", x.cell(1, 0), 10);
        due("14 cell 2", x.cell(2, 0), 10);
        x.shape(0, 0, 10);
        x.shape(1, 0, 14);
        x.set(2, 20);
        x.cause(0, 10);
        x.ticks(1);
        // CELL 0: 10 + 50 * -4 / 100 + 2 = 10, so 20; CELL 1: 28 - 20 - 10 = -2: 10 - 1 + 2 = 11, so 25;
        // CELL 2: 20 - 25 - 10 = -15: 10 - 7 + 2 = 5
        due("14 anew 0", x.cell(0, 0), 20);
        due("14 anew 1", x.cell(1, 0), 25);
        due("14 anew 2", x.cell(2, 0), 15);
    }

    private static void p14Texts() {
        IcicleRings x = new IcicleRings();
        textOf(x, 0, "w+t*10");
        textOf(x, 1, "c+t");
        x.cause(0, 50);
        x.set(0, 100);
        x.ticks(3);
        // COLD 20, 21, 22: 10, 10, 11 freeze; WATER 100, 110, 120
        due("14 wide by texts", x.cell(0, 0), 41);
        due("14 dripped by texts", x.count(4), 330 - 31);
        due("14 settings stay", x.set(0, 100), 100);
        due("14 settings stay", x.set(2, 20), 20);
        IcicleRings y = new IcicleRings();
        y.set(0, 0);
        for (int i = 0; i < 99; i++) {
            y.ticks(100);
        }
        due("14 to the end", y.ticks(99), 9999);
        due("14 not above", y.ticks(1), STATE);
        due("14 beyond ahead of state", y.ticks(101), BEYOND);
        due("14 stays", y.count(0), 9999);
        due("15 not above", y.gusts(1), STATE);
        IcicleRings g = new IcicleRings();
        for (int i = 0; i < 99; i++) {
            g.gusts(100);
        }
        due("15 would be above", g.gusts(100), STATE);
        due("15 to the end", g.gusts(99), 9999);
        due("15 beyond ahead of state", y.gusts(0), BEYOND);
        due("15 no draw", y.count(9), 1);
        textOf(y, 0, "t%9999");
        // WATER 0, 1, .. 59: 39 CELLS more, and 40 to 59 drip
        due("19 beyond 9999, too", y.then(60, 0), 40);
        due("19 beyond 9999, too", y.then(60, 3), 990);
    }

    private static void p15() {
        IcicleRings x = new IcicleRings();
        x.cause(2, 50);
        due("15 n 0", x.gusts(0), BEYOND);
        due("15 n 101", x.gusts(101), BEYOND);
        due("15 NOW", x.gusts(1), 1);
        // z is 1103527590, by 256 4310654: WIND 54
        due("15 z", x.count(9), 1103527590);
        due("15 wide", x.cell(0, 0), 10 + 64);
        due("15 WIND stays", x.set(3, 7), 0);
        int z = 1103527590;
        int wide = 74;
        for (int i = 0; i < 2; i++) {
            z = z * 1103515245 + 12345;
            wide += 10 * (10 + (z >>> 8) % 100) / 10;
        }
        due("15 two more", x.gusts(2), 3);
        due("15 wide", x.cell(0, 0), wide);
        due("15 z", x.count(9), z);
        due("15 WIND stays", x.set(3, 7), 7);
        x.ticks(1);
        due("15 no draw in TICKS", x.count(9), z);
    }

    private static void p16() {
        IcicleRings x = icicle(10, 40, 5);
        due("16 wide", x.mass(), 55);
        x.shape(0, 1, 600);
        x.shape(1, 1, 399);
        due("16 salt below 1000", x.mass(), 55);
        x.shape(2, 1, 1);
        due("16 salt of all together", x.mass(), 56);
        x.shape(2, 1, 999999);
        due("16 much", x.mass(), 55 + 1000);
    }

    private static void p17() {
        IcicleRings x = icicle(10, 40, 10, 30);
        due("17 how many", x.ring(-1), 2);
        due("17 first", x.ring(0), 1);
        due("17 second", x.ring(1), 3);
        due("17 not so many", x.ring(2), NONE);
        due("17 far", x.ring(MAX), NONE);
        due("17 below", x.ring(-2), BEYOND);
        due("17 far below", x.ring(MIN), BEYOND);
        due("17 one CELL is none", new IcicleRings().ring(-1), 0);
        // 0, 30, 30, 0: both 30 stand out alike, so neither more than the other
        due("17 alike neighbours", icicle(0, 30, 30, 0).ring(-1), 0);
        due("17 flat", icicle(10, 10, 10).ring(-1), 0);
        due("17 stands out by 1", icicle(10, 11).ring(0), 1);
        // 20, 10, -30 and -30, 10, 20: only the ends stand out more than those beside them
        due("17 beside the roof", icicle(60, 40, 10).ring(-1), 1);
        due("17 the roof alone", icicle(60, 40, 10).ring(0), 0);
        due("17 beside the tip", icicle(10, 40, 60).ring(-1), 1);
        due("17 the tip alone", icicle(10, 40, 60).ring(0), 2);
        IcicleRings y = icicle(50, 10, 10, 50);
        due("17 ends", y.ring(-1), 2);
        due("17 the roof", y.ring(0), 0);
        due("17 the tip", y.ring(1), 3);
    }

    private static void p18() {
        due("18", icicle(10, 40, 10, 30).apart(), 2);
        due("18 none", icicle(10, 10).apart(), NONE);
        due("18 one", icicle(10, 40).apart(), NONE);
        // RINGS 0, 3, 5: 5 by 2
        due("18 cut", icicle(50, 10, 10, 50, 10, 30).apart(), 2);
    }

    private static void p19() {
        IcicleRings x = new IcicleRings();
        x.set(0, 30);
        x.set(1, 10);
        x.cause(2, 50);
        // as in p14Salt: after 2 TICKS WIDE 30, 30, 10, SALT 100, 312, 188
        int[] want = {3, 1, 70, 0, 0, 10, 600};
        for (int what = 0; what < 7; what++) {
            due("19 what " + what, x.then(2, what), want[what]);
        }
        due("19 by 0", x.then(0, 2), 10);
        due("19 nothing changed", x.count(0), 0);
        due("19 nothing changed", x.cell(0, 0), 10);
        x.set(4, 1);
        due("19 DRIPPED", x.then(60, 3), 60 * 20);
        due("19 DRIPS", x.then(60, 4), 60);
        due("19 n 61", x.then(61, 0), BEYOND);
        due("19 n -1", x.then(-1, 0), BEYOND);
        due("19 what 7", x.then(0, 7), BEYOND);
        due("19 what -1", x.then(0, -1), BEYOND);
    }

    private static void p20() {
        IcicleRings x = new IcicleRings();
        x.set(0, 20);
        due("20 now", x.wide(0, 0), 10);
        due("20 ahead", x.wide(3, 3), 20);
        due("20 none then", x.wide(3, 4), NONE);
        due("20 none then 39", x.wide(3, 39), NONE);
        due("20 all 40", x.wide(60, 39), 20);
        due("20 cell 40", x.wide(60, 40), BEYOND);
        due("20 cell -1", x.wide(60, -1), BEYOND);
        due("20 n 61", x.wide(61, 0), BEYOND);
        due("20 n -1", x.wide(-1, 0), BEYOND);
        due("20 nothing changed", x.count(1), 1);
    }

    private static void p21() {
        // the RING is THE TIP, which goes down by one CELL each TICK
        IcicleRings x = icicle(10, 10, 15);
        textOf(x, 0, "15+(t-1)*5");
        due("21 one RING", x.ring(-1), 1);
        due("21 by 0", x.pace(0), 0);
        due("21 by 1", x.then(1, 1), 1);
        due("21 goes down", x.pace(1), 1);
        due("21 goes on", x.pace(2), 2);
        due("21 no RINGS", new IcicleRings().pace(0), NONE);
        IcicleRings y = icicle(10, 40, 10);
        y.set(0, 40);
        // 10, 40, 10, 40: one RING more
        due("21 not as many", y.pace(1), NONE);
        due("21 n 61", y.pace(61), BEYOND);
        due("21 n -1", y.pace(-1), BEYOND);
        // 30, 10 with 30 of water that a TIP of 30 takes: the RING goes from 0 to 1
        IcicleRings z = icicle(30, 10);
        z.set(0, 30);
        z.cause(1, 15);
        due("21 from the roof to the tip", z.pace(1), 1);
        IcicleRings up = icicle(10, 30);
        up.set(0, 30);
        up.cause(0, 99);
        up.cause(0, 99);
        due("21 upwards", up.pace(1), -1);
    }

    private static void p22() {
        IcicleRings x = icicle(10, 10, 10);
        x.set(0, 50);
        x.cause(0, 0);
        x.cause(1, 25);
        // the TIP takes all 50 and is a RING; without it all drips
        due("22 the tip's", x.needed(1), 2);
        due("22 by 0", x.needed(0), 0);
        x.turn(1, 0);
        due("22 off already", x.needed(1), 0);
        x.turn(1, 1);
        IcicleRings y = icicle(10, 10, 10);
        y.set(0, 50);
        y.cause(1, 25);
        due("22 the first", y.needed(1), 1);
        x.cause(1, 25);
        due("22 one of two is enough", x.needed(1), 0);
        due("22 all on still", x.ofCause(1, 2) + x.ofCause(2, 2), 2);
        due("22 n 61", x.needed(61), BEYOND);
        due("22 n -1", x.needed(-1), BEYOND);
    }

    private static void p23() {
        IcicleRings x = new IcicleRings();
        x.set(0, 40);
        x.set(3, 99);
        x.cause(4, 99);
        // 207 freeze less 99 times SALTY: with 2 only 9 do, and the rest makes a CELL that stands out
        due("23 for 1", x.little(1, 1), 2);
        due("23 for 0", x.little(1, 0), 0);
        due("23 by 0", x.little(0, 1), NONE);
        due("23 for 2", x.little(1, 2), NONE);
        due("23 SALTY stays", x.set(1, 5), 0);
        due("23 whatever it is", x.little(1, 1), 2);
        IcicleRings y = new IcicleRings();
        y.set(0, 11);
        y.set(3, 99);
        y.cause(2, 50);
        y.cause(4, 1);
        // 109 freeze less SALTY: only with 99 less than all 11 do
        due("23 the most", y.little(1, 1), 99);
        due("23 r 40", x.little(1, 40), NONE);
        due("23 r 41", x.little(1, 41), BEYOND);
        due("23 r -1", x.little(1, -1), BEYOND);
        due("23 n 61", x.little(61, 1), BEYOND);
        due("23 n -1", x.little(-1, 1), BEYOND);
    }

    private static void p24() {
        IcicleRings x = new IcicleRings();
        x.set(0, 20);
        x.set(5, 50);
        // MASS 10, 30, 50, 70
        due("24 for the first time", x.breaks(60), 3);
        due("24 just", x.breaks(3), 3);
        due("24 too few", x.breaks(2), NONE);
        x.set(5, 49);
        due("24 sooner", x.breaks(60), 2);
        x.set(5, 9);
        due("24 now", x.breaks(0), 0);
        due("24 now", x.breaks(60), 0);
        x.set(5, 10);
        due("24 as much as it bears", x.breaks(0), NONE);
        due("24 n 61", x.breaks(61), BEYOND);
        due("24 n -1", x.breaks(-1), BEYOND);
    }

    private static void p25() {
        IcicleRings x = new IcicleRings();
        x.cause(2, 50);
        x.set(0, 60);
        x.set(5, 40);
        // COLD by 2 freezes; above 10 of it, the rest is no drop but a CELL
        due("25 by 1", x.falls(1), 21);
        due("25 by 3", x.falls(3), 21);
        due("25 by 4", x.falls(4), 15);
        due("25 by 0", x.falls(0), 99);
        due("25 COLD stays", x.set(2, 20), 20);
        x.set(5, 10);
        due("25 nothing may freeze", x.falls(60), 1);
        x.set(5, 9);
        due("25 with none", x.falls(0), NONE);
        due("25 n 61", x.falls(61), BEYOND);
        due("25 n -1", x.falls(-1), BEYOND);
        x.set(5, 40);
        textOf(x, 1, "c-10");
        due("25 the SETTING", x.falls(1), 31);
        x.set(5, 10);
        textOf(x, 1, "(c+50)*9");
        due("25 the least", x.falls(1), -50);
    }

    private static void p26() {
        IcicleRings x = icicle(10, 20, 20);
        picture(x, 0, 12, 15);
        due("26 fewer numbers", x.off(0), 2 + 5 + 20);
        picture(x, 0, 10, 20, 20, -7);
        due("26 more numbers", x.off(0), 7);
        picture(x, 0, MAX, MIN, 20);
        due("26 held each", x.off(0), 2000000);
        picture(x, 0, 1000009, -999981, 20);
        due("26 just below", x.off(0), 999999 + 1000000);
        x.sheet(1, 8, 0);
        due("26 no numbers", x.off(1), 50);
        x.shape(0, 0, 200);
        x.sheet(1, 8, 3);
        x.draw(1);
        due("26 8 bits have a sign", x.off(1), 256);
        due("26 missing", x.off(2), NONE);
        due("26 no such", x.off(4), BEYOND);
        due("26 no such below", x.off(-1), BEYOND);
    }

    private static void p27() {
        IcicleRings x = new IcicleRings();
        x.cause(2, 50);
        x.cause(2, 10);
        x.ticks(5);
        x.turn(0, 0);
        x.shape(0, 1, 500);
        int[][] rows = {{16, 2, 0}, {40, 1, 0}, {46, 3, 0}, {10, 0, 0}, {13, 0, 3}, {100, 3, 54}, {28, 1, 12}, {27, 2, 11}};
        for (int[] r : rows) {
            picture(x, 0, r[0]);
            due("27 set for " + r[0], x.made(0, 3, 0), r[1]);
            due("27 off for " + r[0], x.made(0, 3, 1), r[2]);
        }
        due("27 by 0", x.made(0, 0, 1), 17);
        due("27 on stays", x.ofCause(0, 2), 0);
        due("27 NOW stays", x.count(0), 5);
        due("27 no causes", noCausesMade(), 0);
        due("27 sheet 4", x.made(4, 3, 0), BEYOND);
        due("27 sheet -1", x.made(-1, 3, 0), BEYOND);
        due("27 n 61", x.made(0, 61, 0), BEYOND);
        due("27 n -1", x.made(0, -1, 0), BEYOND);
        due("27 what 2", x.made(0, 3, 2), BEYOND);
        due("27 what -1", x.made(0, 3, -1), BEYOND);
        due("27 missing", x.made(1, 3, 0), NONE);
        due("27 beyond ahead of missing", x.made(1, 61, 0), BEYOND);
        due("27 beyond ahead of missing", x.made(1, 3, 2), BEYOND);
        // FORKED counts TICKS from 0
        IcicleRings y = new IcicleRings();
        y.ticks(3);
        y.cause(6, 45);
        y.set(2, 0);
        picture(y, 0, 10 + 45 + 45);
        due("27 from TICK 0", y.made(0, 8, 1), 0);
        due("27 from TICK 0", y.made(0, 7, 1), 45);
    }

    private static int noCausesMade() {
        IcicleRings x = new IcicleRings();
        picture(x, 0, 10);
        return x.made(0, 9, 0) + x.made(0, 9, 1);
    }

    private static void p28() {
        IcicleRings x = new IcicleRings();
        x.cause(2, 50);
        x.ticks(4);
        // WIDE is 10 and twice 10 and WIND
        int[][] rows = {{50, 10}, {51, 10}, {52, 11}, {0, 0}, {30, 0}, {228, 99}, {9999, 99}};
        for (int[] r : rows) {
            picture(x, 0, r[0]);
            due("28 for " + r[0], x.blown(0, 2), r[1]);
        }
        due("28 WIND stays", x.set(3, 0), 0);
        x.turn(0, 0);
        due("28 CAUSES as they are", x.blown(0, 2), 0);
        due("28 n 61", x.blown(0, 61), BEYOND);
        due("28 n -1", x.blown(0, -1), BEYOND);
        due("28 sheet 4", x.blown(4, 1), BEYOND);
        due("28 missing", x.blown(1, 1), NONE);
        due("28 beyond ahead of missing", x.blown(1, 61), BEYOND);
    }

    private static void p29() {
        IcicleRings x = new IcicleRings();
        int[][] wrong = {{-51, 0, 0}, {100, 0, 0}, {0, -1, 0}, {0, 100, 0}, {0, 0, -1}, {0, 0, 100}};
        for (int[] w : wrong) {
            due("29 wrong", x.box(w[0], w[1], w[2]), BEYOND);
        }
        due("29 none", x.count(3), 0);
        due("29 least", x.box(-50, 0, 0), 0);
        due("29 most", x.box(99, 99, 99), 1);
        for (int i = 2; i < 5; i++) {
            due("29 more", x.box(0, 0, 0), i);
        }
        due("29 full", x.box(0, 0, 0), FULL);
        due("29 beyond ahead of full", x.box(100, 0, 0), BEYOND);
        due("29 count", x.count(3), 5);
    }

    private static void p30() {
        IcicleRings x = new IcicleRings();
        x.cause(0, 50);
        x.cause(2, 50);
        due("30 no boxes", x.tries(1), NONE);
        due("30 beyond ahead of none", x.tries(61), BEYOND);
        x.box(20, 0, 0);
        due("30 one box", x.tries(1), 0);
        x.box(20, 50, 0);
        x.box(30, 60, 0);
        due("30 wind tells them apart", x.tries(1), 1);
        due("30 by 0 all alike", x.tries(0), 0);
        x.turn(0, 0);
        x.turn(1, 0);
        x.ticks(3);
        due("30 off CAUSES and NOW don't matter", x.tries(1), 1);
        due("30 settings stay", x.set(3, 0), 0);
        due("30 n -1", x.tries(-1), BEYOND);
        IcicleRings y = new IcicleRings();
        y.set(0, 60);
        y.cause(3, 40);
        y.cause(4, 40);
        y.cause(2, 40);
        y.box(99, 9, 0);
        y.box(99, 9, 1);
        y.box(-50, 9, 1);
        // SALTED is unlike the two others only with salt; below 0 nothing freezes by any
        due("30 salt tells them apart", y.tries(1), 1);
        IcicleRings z = new IcicleRings();
        z.cause(0, 50);
        z.cause(0, 51);
        z.box(20, 0, 0);
        z.box(60, 0, 0);
        // 10 and 10, 30 and 30; with 99, 49 and 50
        due("30 COLD doesn't tell them apart", z.tries(9), 0);
        z.box(99, 0, 0);
        due("30 COLD tells them apart", z.tries(9), 2);
    }

    private static void p31() {
        IcicleRings x = new IcicleRings();
        due("31 at first", x.seed(MIN), 1);
        due("31 any", x.seed(-1000000001), MIN);
        due("31 any", x.seed(0), -1000000001);
        due("31 no error", x.told(1), 0);
        x.gusts(1);
        due("31 draws go on from it", x.count(9), 12345);
    }

    private static void p32() {
        int[][] want = {{10, 20, -35, -55}, {10, 20 + 39, -35, 0}, {30, 60, -35, 0}, {33, 66, 35, 0}, {33, 66, 35, 0},
            {10, 20, -35 ^ 5, 0}, {10, 20 + 39 + 40, -35, 0}};
        for (int kind = 0; kind < 7; kind++) {
            IcicleRings x = new IcicleRings();
            for (int i = 0; i < 5; i++) {
                x.cause(0, 1);
            }
            x.cause(kind, 40);
            int tells = want[kind][1] ^ want[kind][2];
            tells = kind == 4 ? tells - 24 : kind == 6 ? want[kind][1] - tells : tells;
            for (int act = 0; act < 3; act++) {
                due("32 kind " + kind + " act " + act, x.voice(5, act, 5), want[kind][act]);
            }
            due("32 kind " + kind + " tells", x.voice(5, 3, 5), tells);
            due("32 act 4", x.voice(5, 4, 5), BEYOND);
            due("32 act -1", x.voice(5, -1, 5), BEYOND);
            due("32 no such", x.voice(6, 0, 5), BEYOND);
            due("32 no such below", x.voice(-1, 0, 5), BEYOND);
            due("32 goes round", x.voice(1, 0, MAX), MIN);
        }
    }

    private static void p33() {
        int[][] want = {{13, 11, 10, 12}, {13, 20, 11, 10, 12, 12}, {13, 11, 30, 10, 12}, {13, 11, 41, 30, 10, 40, 12},
            {50, 13, 11, 41, 30, 10, 40, 12, 41, 30, 10}, {13, 11, 10, 60, 12},
            {71, 70, 20, 11, 10, 12, 13, 70, 20, 11, 10, 12, 12}};
        for (int kind = 0; kind < 7; kind++) {
            IcicleRings x = new IcicleRings();
            x.cause(kind, 40);
            due("33 none yet", x.trace(0), NONE);
            x.voice(0, 2, 1);
            x.voice(0, 3, 1);
            due("33 many " + kind, x.count(8), want[kind].length);
            for (int i = 0; i < want[kind].length; i++) {
                due("33 kind " + kind + " place " + i, x.trace(i), want[kind][i]);
            }
            due("33 no more", x.trace(want[kind].length), NONE);
            due("33 below", x.trace(-1), NONE);
            due("33 far", x.trace(MIN), NONE);
            x.voice(0, 4, 1);
            due("33 an error leaves it", x.count(8), want[kind].length);
        }
    }

    private static void p34() {
        IcicleRings x = new IcicleRings();
        due("34 8", x.sheet(0, 8, 40), 1);
        due("34 16", x.sheet(1, 16, 0), 1);
        due("34 32", x.sheet(3, 32, 1), 1);
        x.put(0, 39, 5);
        due("34 in place", x.sheet(0, 8, 40), 1);
        due("34 all 0", x.off(0), 10);
        due("34 missing, n doesn't matter", x.sheet(0, 0, -1), 1);
        due("34 missing", x.off(0), NONE);
        due("34 missing, n too great", x.sheet(3, 0, MAX), 1);
        due("34 missing", x.off(3), NONE);
        due("34 sheet 4", x.sheet(4, 8, 1), BEYOND);
        due("34 sheet -1", x.sheet(-1, 8, 1), BEYOND);
        due("34 bits 1", x.sheet(0, 1, 1), BEYOND);
        due("34 bits 64", x.sheet(0, 64, 1), BEYOND);
        due("34 bits ahead of n", x.sheet(0, 7, -1), BEYOND);
        due("34 sheet ahead of n", x.sheet(4, 8, -1), BEYOND);
        due("34 n -1", x.sheet(0, 8, -1), STATE);
        due("34 n far below", x.sheet(0, 8, MIN), STATE);
        due("34 n 41", x.sheet(0, 8, 41), BEYOND);
        due("34 n far", x.sheet(0, 8, MAX), BEYOND);
        due("34 still missing", x.off(0), NONE);
        due("34 the other stays", x.off(1), 10);
    }

    private static void p35() {
        IcicleRings x = new IcicleRings();
        x.shape(0, 0, 0);
        x.sheet(0, 8, 2);
        x.sheet(1, 16, 1);
        x.sheet(2, 32, 1);
        due("35 put", x.put(0, 1, 5), 1);
        due("35 it is there", x.off(0), 5);
        x.put(0, 1, 256 + 7);
        due("35 lowest 8 bits", x.off(0), 7);
        x.put(0, 1, 128);
        due("35 8 bits with a sign", x.off(0), 128);
        x.put(0, 1, 255);
        due("35 8 bits with a sign", x.off(0), 1);
        x.put(1, 0, 65536 + 9);
        due("35 lowest 16 bits", x.off(1), 9);
        x.put(1, 0, 65535);
        due("35 16 bits with a sign", x.off(1), 1);
        x.put(2, 0, 65536);
        due("35 32 bits", x.off(2), 65536);
        due("35 no number", x.put(0, 2, 5), BEYOND);
        due("35 no number", x.put(0, -1, 5), BEYOND);
        due("35 no number", x.put(0, MIN, 5), BEYOND);
        due("35 missing ahead of no number", x.put(3, 99, 5), NONE);
        due("35 no such", x.put(4, 0, 5), BEYOND);
        due("35 no such", x.put(-1, 0, 5), BEYOND);
    }

    private static void p36() {
        IcicleRings x = icicle(0, 0, 0, 0, 0);
        picture(x, 0, 1, 20, 300, 4000, 50000);
        x.sheet(1, 32, 3);
        due("36 moved", x.move(0, 1, 1, 0, 2), 2);
        x.cells(1);
        due("36 first", x.cell(0, 0), 20);
        due("36 second", x.cell(1, 0), 300);
        due("36 the rest", x.cell(2, 0), 0);
        due("36 on itself, down", x.move(0, 0, 0, 1, 4), 4);
        x.cells(0);
        due("36 as they were", x.cell(4, 0), 4000);
        due("36 as they were", x.cell(1, 0), 1);
        due("36 on itself, up", x.move(0, 1, 0, 0, 4), 4);
        x.cells(0);
        due("36 as they were", x.cell(0, 0), 1);
        due("36 as they were", x.cell(3, 0), 4000);
        due("36 none at the end", x.move(0, 5, 1, 3, 0), 0);
        due("36 past the end", x.move(0, 6, 1, 3, 0), BEYOND);
        int[][] wrong = {{0, -1, 1, 0, 1}, {0, 0, 1, -1, 1}, {0, 0, 1, 0, -1}, {0, 0, 1, 0, 4}, {0, 3, 1, 0, 3},
            {0, 0, 1, 1, 3}, {0, MAX, 1, 0, MAX}, {0, 1, 1, 1, MAX}, {0, 0, 1, 0, MIN}};
        for (int[] w : wrong) {
            due("36 wrong", x.move(w[0], w[1], w[2], w[3], w[4]), BEYOND);
        }
        x.sheet(3, 16, 3);
        due("36 unlike bits ahead of places", x.move(0, -1, 3, 0, 1), KIND);
        due("36 missing ahead of places", x.move(0, -1, 2, 0, 1), NONE);
        due("36 missing", x.move(2, 0, 0, 0, 1), NONE);
        due("36 no such ahead of missing", x.move(2, 0, 4, 0, 1), BEYOND);
        due("36 no such", x.move(-1, 0, 0, 0, 1), BEYOND);
    }

    private static void p37() {
        IcicleRings x = icicle(10, 40, 300);
        x.sheet(0, 32, 5);
        x.put(0, 4, 9);
        due("37 all CELLS", x.draw(0), 3);
        due("37 as they are, the others stay", x.off(0), 9);
        x.sheet(1, 32, 2);
        due("37 as many as have room", x.draw(1), 2);
        due("37 those", x.off(1), 300);
        x.sheet(2, 8, 3);
        x.draw(2);
        due("37 lowest bits", x.off(2), 256);
        x.sheet(2, 8, 0);
        due("37 no room", x.draw(2), 0);
        due("37 missing", x.draw(3), NONE);
        due("37 no such", x.draw(4), BEYOND);
        due("37 no such", x.draw(-1), BEYOND);
    }

    private static void p38and39() {
        IcicleRings x = icicle(10, 40);
        due("39 none", x.restore(), NONE);
        x.cause(2, 50);
        x.box(1, 2, 3);
        x.tell(7);
        x.seed(99);
        x.feed('t', 1);
        x.sheet(0, 8, 3);
        x.voice(0, 0, 1);
        due("38 once", x.image(), 1);
        x.text(1);
        x.feed('1', 1);
        x.feed('2', 1);
        x.cause(1, 10);
        x.turn(0, 0);
        x.box(1, 2, 3);
        x.tell(8);
        x.gusts(3);
        x.set(0, 77);
        x.shape(0, 1, 5);
        x.sheet(0, 0, 0);
        x.voice(0, 1, 1);
        x.cell(9, 9);
        due("39 NOW", x.restore(), 1);
        due("39 told stays", x.told(1), 1);
        due("39 told stays", x.told(2), 1);
        due("39 sheets stay", x.off(0), NONE);
        due("39 the trace stays", x.count(8), 3);
        int[] counts = {1, 2, 1, 1, 0, 0, 1, 1, 3, 99};
        for (int i = 0; i < counts.length; i++) {
            due("39 count " + i, x.count(i), counts[i]);
        }
        due("39 cell", x.cell(0, 0), 10);
        due("39 salt", x.cell(0, 1), 0);
        due("39 cell 1", x.cell(1, 0), 40);
        due("39 setting", x.set(0, 200), 200);
        due("39 on", x.ofCause(0, 2), 1);
        due("39 no TEXT", x.law(1, 5, 5, 5), 20);
        due("39 the tape", x.text(1), 1);
        due("39 the TEXT", x.law(1, 5, 6, 7), 5);
        due("39 it stays", x.restore(), 1);
        due("39 no TEXT again", x.law(1, 5, 5, 5), 20);
        due("38 twice", x.image(), 2);
        x.ticks(4);
        due("38 thrice, in place", x.image(), 3);
        x.ticks(4);
        due("39 the latest", x.restore(), 5);
        due("39 how often stays", x.image(), 4);
    }

    private static void p40and41() {
        IcicleRings x = icicle(10, 40, 10, 30);
        due("41 none wait", x.check(0), 1);
        due("40 one", x.tell(1), 1);
        due("41 the second is missing", x.check(0), 2);
        due("41 none wait then", x.count(7), 0);
        x.tell(1);
        due("40 two", x.tell(3), 2);
        due("41 all", x.check(0), 0);
        x.tell(1);
        x.tell(2);
        due("41 the second isn't so", x.check(0), 2);
        x.tell(3);
        x.tell(1);
        due("41 from the roof down", x.check(0), 1);
        x.tell(1);
        x.tell(3);
        x.tell(5);
        due("41 one too many", x.check(0), 3);
        x.tell(1);
        due("41 n 61", x.check(61), BEYOND);
        due("41 none wait then, too", x.count(7), 0);
        x.tell(1);
        due("41 n -1", x.check(-1), BEYOND);
        due("41 none wait then, too", x.count(7), 0);
        for (int i = 1; i <= 20; i++) {
            due("40 waits", x.tell(MIN), i);
        }
        due("40 full", x.tell(1), FULL);
        due("40 still 20", x.count(7), 20);
        due("41 no RINGS, none told", new IcicleRings().check(60), 0);
        IcicleRings y = new IcicleRings();
        y.set(0, 40);
        y.tell(1);
        due("41 ahead", y.check(1), 0);
        due("41 nothing changed", y.count(0), 0);
    }

    private static void p42and43() {
        IcicleRings x = new IcicleRings();
        due("42 what 10", x.count(10), BEYOND);
        due("42 what -1", x.count(-1), BEYOND);
        due("43 counted", x.told(1), 2);
        due("43 k 0", x.told(0), BEYOND);
        due("43 k 6", x.told(6), BEYOND);
        due("43 k far", x.told(MIN), BEYOND);
        due("43 counted, too", x.told(1), 5);
        x.apart();
        x.sheet(0, 8, -1);
        x.cause(1, 1);
        x.as(0, 2);
        for (int i = 0; i < 22; i++) {
            x.tell(0);
        }
        int[] want = {0, 5, 1, 1, 2, 1};
        for (int k = 1; k < 6; k++) {
            due("43 k " + k, x.told(k), want[k]);
        }
        x.seed(-1000000003);
        x.count(9);
        x.text(0);
        due("43 what only looks like one", x.told(3), 1);
    }

    public static void main(String[] args) {
        p1();
        p2();
        p3();
        p4();
        p5();
        p6();
        p7();
        p8();
        p9();
        p10();
        p10Forked();
        p11();
        p12();
        p13();
        p14();
        p14Salt();
        p14Held();
        p14Order();
        p14Texts();
        p15();
        p16();
        p17();
        p18();
        p19();
        p20();
        p21();
        p22();
        p23();
        p24();
        p25();
        p26();
        p27();
        p28();
        p29();
        p30();
        p31();
        p32();
        p33();
        p34();
        p35();
        p36();
        p37();
        p38and39();
        p40and41();
        p42and43();
        Checks.end();
    }
}
