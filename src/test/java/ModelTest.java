import java.util.Random;

/** Runs of drawn calls (the same ones each time), every answer of the class against the plain model's. */
public final class ModelTest {
    private static final int RUNS = 150;
    private static final int CALLS = 300;
    private static final int[] ODD = {Integer.MIN_VALUE, Integer.MAX_VALUE, -1, -2, 0, 1, 40, 41, 60, 61, 100, 101};
    private static final String BYTES = "twc0123456789()!|&<=>+-*/%((!! x";

    private final Random r;
    private final IcicleRings x = new IcicleRings();
    private final PlainModel y = new PlainModel();
    private final String name;
    private final StringBuilder calls = new StringBuilder();
    private final int[] calm = {1, 1};
    private int mark = 0;

    private ModelTest(int run) {
        r = new Random(run);
        name = "run " + run;
        for (int i = 0; i < calm.length; i++) {
            calm[i] = r.nextInt(3);
        }
    }

    /** A number within a to b, now and then one just outside, or far away. */
    private int some(int a, int b) {
        int k = r.nextInt(60);
        if (k == 0) {
            return ODD[r.nextInt(ODD.length)];
        }
        if (k == 1) {
            return r.nextBoolean() ? a - 1 : b + 1;
        }
        if (k == 2) {
            return r.nextBoolean() ? a : b;
        }
        return a + r.nextInt(b - a + 1);
    }

    private int sheet() {
        return some(0, 3);
    }

    private int causeNumber() {
        return some(0, Math.max(0, y.count(2) - 1));
    }

    private int cellNumber() {
        return some(0, Math.max(0, y.count(1) - 1));
    }

    private int ahead() {
        return r.nextInt(6) == 0 ? some(0, 60) : some(0, 20);
    }

    private void same(String call, int got, int want) {
        if (got != want) {
            Checks.due(name + ": " + call + " after" + calls, got, want);
        } else {
            Checks.due(call, got, want);
        }
        calls.append(' ').append(call);
    }

    private static String quoted(String name, int... args) {
        StringBuilder b = new StringBuilder(name).append('(');
        for (int i = 0; i < args.length; i++) {
            b.append(i == 0 ? "" : ",").append(args[i]);
        }
        return b.append(')').toString();
    }

    private String expression(int depth) {
        int k = r.nextInt(depth > 2 ? 3 : 9);
        switch (k) {
            case 0: return String.valueOf(r.nextInt(r.nextInt(4) == 0 ? 10000 : 30));
            case 1: return "t";
            case 2: return r.nextBoolean() ? "w" : "c";
            case 3: return "(" + expression(depth + 1) + ")";
            case 4: return "!" + expression(depth + 1);
            default:
                return expression(depth + 1) + "+-*/%<=>|&+-*/%".charAt(r.nextInt(15)) + expression(depth + 1);
        }
    }

    private void feedText() {
        StringBuilder s = new StringBuilder(expression(r.nextInt(3)));
        if (r.nextInt(3) == 0) {
            s.insert(r.nextInt(s.length() + 1), BYTES.charAt(r.nextInt(BYTES.length())));
        }
        if (r.nextInt(6) == 0) {
            s.deleteCharAt(r.nextInt(s.length()));
        }
        if (r.nextInt(9) == 0) {
            s.insert(0, "!(!(!(".substring(r.nextInt(6)));
        }
        for (int i = 0; i < s.length(); i += 8) {
            int n = Math.min(8, s.length() - i);
            long word = r.nextLong() << 8 * (n - 1) << 8;
            for (int k = 0; k < n; k++) {
                word |= (long) s.charAt(i + k) << 8 * k;
            }
            same("feed(" + word + "," + n + ")", x.feed(word, n), y.feed(word, n));
        }
        int use = some(0, 1);
        same(quoted("text", use) + "'" + s + "'", x.text(use), y.text(use));
    }

    private void cellCall() {
        int a = cellNumber();
        switch (r.nextInt(4)) {
            case 0: {
                int what = some(0, 2);
                same(quoted("cell", a, what), x.cell(a, what), y.cell(a, what));
                break;
            }
            case 1: {
                int what = some(0, 1);
                int v = r.nextInt(9) == 0 ? some(0, what == 0 ? 99999 : 999999) : some(0, 300);
                same(quoted("shape", a, what, v), x.shape(a, what, v), y.shape(a, what, v));
                break;
            }
            case 2: {
                int s = sheet();
                same(quoted("cells", s), x.cells(s), y.cells(s));
                break;
            }
            default: {
                int what = some(0, 5);
                int v = settingOf(what);
                same(quoted("set", what, v), x.set(what, v), y.set(what, v));
            }
        }
    }

    private int settingOf(int what) {
        switch (what) {
            case 0: return r.nextInt(4) == 0 ? some(0, 9999) : some(0, 300);
            case 2: return some(-50, 99);
            case 4: return r.nextInt(3) == 0 ? some(1, 999) : some(1, 60);
            case 5: return r.nextInt(3) == 0 ? some(0, 9999999) : some(0, 3000);
            default: return some(0, 99);
        }
    }

    private void causeCall() {
        int a = causeNumber();
        switch (r.nextInt(6)) {
            case 0:
            case 1: {
                int kind = some(0, 6);
                int m = some(0, 99);
                same(quoted("cause", kind, m), x.cause(kind, m), y.cause(kind, m));
                break;
            }
            case 2: {
                int what = some(0, 2);
                same(quoted("ofCause", a, what), x.ofCause(a, what), y.ofCause(a, what));
                break;
            }
            case 3: {
                int kind = some(0, 6);
                same(quoted("as", a, kind), x.as(a, kind), y.as(a, kind));
                break;
            }
            case 4: {
                int on = some(0, 1);
                same(quoted("turn", a, on), x.turn(a, on), y.turn(a, on));
                break;
            }
            default: {
                int cell = cellNumber();
                int water = some(0, r.nextBoolean() ? 10 : 999999);
                int salt = some(0, 999999);
                same(quoted("freezes", a, cell, water, salt), x.freezes(a, cell, water, salt),
                    y.freezes(a, cell, water, salt));
            }
        }
    }

    private void tickCall() {
        switch (r.nextInt(6)) {
            case 0: {
                int n = r.nextInt(4) == 0 ? some(1, 100) : some(1, 9);
                same(quoted("gusts", n), x.gusts(n), y.gusts(n));
                break;
            }
            case 1:
                same("mass()", x.mass(), y.mass());
                break;
            case 2: {
                int i = some(-1, 6);
                same(quoted("ring", i), x.ring(i), y.ring(i));
                break;
            }
            case 3:
                same("apart()", x.apart(), y.apart());
                break;
            default: {
                int n = r.nextInt(4) == 0 ? some(1, 100) : some(1, 9);
                same(quoted("ticks", n), x.ticks(n), y.ticks(n));
            }
        }
    }

    private void aheadCall() {
        int n = ahead();
        switch (r.nextInt(8)) {
            case 0: {
                int what = some(0, 6);
                same(quoted("then", n, what), x.then(n, what), y.then(n, what));
                break;
            }
            case 1: {
                int cell = some(0, 39);
                same(quoted("wide", n, cell), x.wide(n, cell), y.wide(n, cell));
                break;
            }
            case 2:
                same(quoted("pace", n), x.pace(n), y.pace(n));
                break;
            case 3:
                same(quoted("needed", n), x.needed(n), y.needed(n));
                break;
            case 4: {
                int many = r.nextInt(4) == 0 ? some(0, 40) : some(0, 8);
                same(quoted("little", n, many), x.little(n, many), y.little(n, many));
                break;
            }
            case 5:
                same(quoted("breaks", n), x.breaks(n), y.breaks(n));
                break;
            case 6:
                same(quoted("falls", n), x.falls(n), y.falls(n));
                break;
            default:
                if (r.nextBoolean()) {
                    tellRings(n);
                }
                same(quoted("check", n), x.check(n), y.check(n));
        }
    }

    /** Tells the RINGS that are now, one of them now and then otherwise. */
    private void tellRings(int n) {
        int many = y.ring(-1);
        x.ring(-1);
        for (int i = 0; i < many; i++) {
            int v = y.ring(i) + (r.nextInt(12) == 0 ? 1 : 0);
            x.ring(i);
            same(quoted("tell", v), x.tell(v), y.tell(v));
        }
    }

    private void pictureCall() {
        int s = sheet();
        switch (r.nextInt(6)) {
            case 0:
                same(quoted("off", s), x.off(s), y.off(s));
                break;
            case 1:
            case 2: {
                int n = ahead();
                int what = some(0, 1);
                same(quoted("made", s, n, what), x.made(s, n, what), y.made(s, n, what));
                break;
            }
            case 3: {
                int n = ahead();
                same(quoted("blown", s, n), x.blown(s, n), y.blown(s, n));
                break;
            }
            case 4: {
                int cold = some(-50, 99);
                int wind = some(0, 99);
                int salty = some(0, 99);
                same(quoted("box", cold, wind, salty), x.box(cold, wind, salty), y.box(cold, wind, salty));
                break;
            }
            default: {
                int n = ahead();
                same(quoted("tries", n), x.tries(n), y.tries(n));
            }
        }
    }

    private void sheetCall() {
        int s = sheet();
        switch (r.nextInt(5)) {
            case 0: {
                int bits = r.nextInt(9) == 0 ? some(0, 33) : new int[] {8, 16, 32, 32, 16, 0}[r.nextInt(6)];
                int n = some(0, 40);
                same(quoted("sheet", s, bits, n), x.sheet(s, bits, n), y.sheet(s, bits, n));
                break;
            }
            case 1:
            case 2: {
                int i = some(0, 20);
                int v = r.nextInt(5) == 0 ? r.nextInt() : some(-20, 400);
                same(quoted("put", s, i, v), x.put(s, i, v), y.put(s, i, v));
                break;
            }
            case 3: {
                int o = sheet();
                int i = some(0, 10);
                int j = some(0, 10);
                int n = some(0, 10);
                same(quoted("move", s, i, o, j, n), x.move(s, i, o, j, n), y.move(s, i, o, j, n));
                break;
            }
            default:
                same(quoted("draw", s), x.draw(s), y.draw(s));
        }
    }

    private void otherCall() {
        switch (r.nextInt(9)) {
            case 0: {
                int v = r.nextInt();
                same(quoted("seed", v), x.seed(v), y.seed(v));
                break;
            }
            case 1:
            case 2: {
                int a = causeNumber();
                int act = some(0, 3);
                int v = r.nextBoolean() ? r.nextInt() : some(-50, 50);
                same(quoted("voice", a, act, v), x.voice(a, act, v), y.voice(a, act, v));
                break;
            }
            case 3: {
                int i = some(0, 14);
                same(quoted("trace", i), x.trace(i), y.trace(i));
                break;
            }
            case 4:
                same("image()", x.image(), y.image());
                break;
            case 5:
                same("restore()", x.restore(), y.restore());
                break;
            case 6: {
                int v = some(0, 9);
                same(quoted("tell", v), x.tell(v), y.tell(v));
                break;
            }
            case 7: {
                int k = some(1, 5);
                same(quoted("told", k), x.told(k), y.told(k));
                break;
            }
            default: {
                int use = some(0, 1);
                int a = some(-100, 100);
                int b = some(0, 9999);
                int c = r.nextInt();
                same(quoted("law", use, a, b, c), x.law(use, a, b, c), y.law(use, a, b, c));
            }
        }
    }

    /** After each call all that can be seen without changing anything is asked. */
    private void look() {
        for (int i = 0; i < 10; i++) {
            same(quoted("count", i), x.count(i), y.count(i));
        }
        for (int k = 1; k < 6; k++) {
            same(quoted("told", k), x.told(k), y.told(k));
        }
        for (int i = 0; i < y.count(1); i++) {
            for (int what = 0; what < 3; what++) {
                same(quoted("cell", i, what), x.cell(i, what), y.cell(i, what));
            }
        }
        calls.setLength(Math.min(calls.length(), mark));
    }

    private void step() {
        int k = r.nextInt(20);
        if (k < 3 + calm[0]) {
            cellCall();
        } else if (k < 6 + calm[0]) {
            causeCall();
        } else if (k < 7 + calm[1]) {
            feedText();
        } else if (k < 11) {
            tickCall();
        } else if (k < 13) {
            aheadCall();
        } else if (k < 14) {
            pictureCall();
        } else if (k < 17) {
            sheetCall();
        } else {
            otherCall();
        }
        mark = calls.length();
    }

    /** CAUSES, SHEETS and CELLS to begin with, so that fewer calls answer that there are none. */
    private void furnish() {
        int water = some(1, 49);
        int n = some(1, 30);
        same(quoted("set", 0, water), x.set(0, water), y.set(0, water));
        same(quoted("ticks", n), x.ticks(n), y.ticks(n));
        for (int i = r.nextInt(6); i >= 0; i--) {
            int kind = some(0, 6);
            int m = some(0, 99);
            same(quoted("cause", kind, m), x.cause(kind, m), y.cause(kind, m));
        }
        for (int i = 0; i < 4; i++) {
            int bits = 8 << r.nextInt(3);
            int many = some(0, 40);
            same(quoted("sheet", i, bits, many), x.sheet(i, bits, many), y.sheet(i, bits, many));
            same(quoted("draw", i), x.draw(i), y.draw(i));
        }
    }

    private void all(boolean toTheEnd) {
        if (toTheEnd) {
            for (int i = 0; i < 99; i++) {
                same("ticks(100)", x.ticks(100), y.ticks(100));
            }
        }
        if (r.nextBoolean()) {
            furnish();
        }
        for (int i = 0; i < CALLS; i++) {
            step();
            if (i % 5 == 0) {
                look();
            }
        }
    }

    public static void main(String[] args) {
        int runs = args.length > 0 ? Integer.parseInt(args[0]) : RUNS;
        int from = args.length > 1 ? Integer.parseInt(args[1]) : 0;
        for (int run = from; run < from + runs; run++) {
            new ModelTest(run).all(run % 20 == 7);
        }
        Checks.end();
    }
}
