import java.util.ArrayList;
import java.util.HashMap;
import java.util.List;
import java.util.Map;

/**
 * A second reading of the document, slow and plain, in another style than the class: CELLS are lists of longs, texts
 * are strings cut at their weakest sign, FAULTS come from a machine with a stack, VOICES from a table of BODIES.
 */
final class PlainModel {
    private static final int LOW = -1000000000;
    private static final int[][] RANGES = {{0, 9999}, {0, 99}, {-50, 99}, {0, 99}, {1, 999}, {0, 9999999}};
    private static final int[] ABOVE = {-1, 0, 0, 2, 3, 0, 1};

    /** All that an IMAGE has. */
    private static final class All {
        List<Long> wide = new ArrayList<>(List.of(10L));
        List<Long> salt = new ArrayList<>(List.of(0L));
        int[] settings = {200, 0, 20, 0, 50, 100000};
        List<int[]> causes = new ArrayList<>();
        List<int[]> boxes = new ArrayList<>();
        String[] texts = new String[2];
        String tape = "";
        List<Integer> waiting = new ArrayList<>();
        long now = 0;
        long dripped = 0;
        int drips = 0;
        int z = 1;

        All copy() {
            All c = new All();
            c.wide = new ArrayList<>(wide);
            c.salt = new ArrayList<>(salt);
            c.settings = settings.clone();
            for (int[] a : causes) {
                c.causes.add(a.clone());
            }
            for (int[] a : boxes) {
                c.boxes.add(a.clone());
            }
            c.texts = texts.clone();
            c.tape = tape;
            c.waiting = new ArrayList<>(waiting);
            c.now = now;
            c.dripped = dripped;
            c.drips = drips;
            c.z = z;
            return c;
        }

        All first() {
            All c = copy();
            c.wide = new ArrayList<>(List.of(10L));
            c.salt = new ArrayList<>(List.of(0L));
            c.now = 0;
            return c;
        }

        All after(int n) {
            All c = copy();
            for (int i = 0; i < n; i++) {
                c.tick(c.settings[3]);
            }
            return c;
        }

        void only(int bits) {
            for (int i = 0; i < causes.size(); i++) {
                causes.get(i)[2] = bits >> i & 1;
            }
        }

        long out(int i) {
            long own = wide.get(i);
            long above = i == 0 ? own : wide.get(i - 1);
            long below = i == wide.size() - 1 ? own : wide.get(i + 1);
            return own - above + own - below;
        }

        int law(int use, int t, int w, int c) {
            int setting = use == 0 ? 0 : 2;
            if (texts[use] == null) {
                return settings[setting];
            }
            int v = value(texts[use], t, w, c);
            return v < RANGES[setting][0] ? RANGES[setting][0] : v > RANGES[setting][1] ? RANGES[setting][1] : v;
        }

        int lawNow(int use) {
            return law(use, (int) now, settings[0], settings[2]);
        }

        long freeze(int[] cause, int i, long water, long salt, int wind) {
            long m = cause[1];
            long plain = m * lawNow(1) / 100;
            boolean tip = i == wide.size() - 1;
            long side = plain * (10 + wind) / 10;
            long ringed = side + m * out(i) / 100;
            long tips = tip ? 10 * plain : 0;
            switch (cause[0]) {
                case 0: return plain;
                case 1: return tips;
                case 2: return side;
                case 3: return ringed;
                case 4: return ringed - m * salt / (water < 1 ? 1 : water);
                case 5: return wind > 20 && i % 2 != 0 ? plain + plain : plain;
                default: return tips + (tip && now % 7 == 0 ? m : 0);
            }
        }

        void tick(int wind) {
            long water = lawNow(0);
            long s = water * settings[1];
            for (int i = 0; i < wide.size(); i++) {
                long f = 0;
                for (int[] cause : causes) {
                    if (cause[2] == 1) {
                        f += freeze(cause, i, water, s, wind);
                    }
                }
                f = f < 0 ? 0 : f > water ? water : f;
                long stays = water == 0 ? 0 : s * f / (2 * water);
                wide.set(i, wide.get(i) + f > 99999 ? 99999 : wide.get(i) + f);
                salt.set(i, salt.get(i) + stays > 999999 ? 999999 : salt.get(i) + stays);
                water -= f;
                s -= stays;
            }
            if (water >= settings[4] || water != 0 && wide.size() == 40) {
                dripped += water;
                drips++;
            } else if (water != 0) {
                wide.add(water);
                salt.add(s);
            }
            now++;
        }

        int draw() {
            z = z * 1103515245 + 12345;
            return z >>> 8;
        }

        long sum(List<Long> of) {
            long all = 0;
            for (long v : of) {
                all += v;
            }
            return all;
        }

        long mass() {
            return sum(wide) + sum(salt) / 1000;
        }

        boolean hangs() {
            return mass() <= settings[5];
        }

        List<Integer> rings() {
            List<Integer> all = new ArrayList<>();
            for (int i = 0; i < wide.size(); i++) {
                boolean is = out(i) > 0;
                if (i > 0 && out(i - 1) >= out(i)) {
                    is = false;
                }
                if (i + 1 < wide.size() && out(i + 1) >= out(i)) {
                    is = false;
                }
                if (is) {
                    all.add(i);
                }
            }
            return all;
        }

        long off(long[] picture) {
            long all = 0;
            for (int i = 0; i < 40; i++) {
                long a = i < wide.size() ? wide.get(i) : 0;
                long b = i < picture.length ? picture[i] : 0;
                all += Math.min(Math.abs(a - b), 1000000);
            }
            return all;
        }
    }

    private All all = new All();
    private All image = null;
    private int images = 0;
    private final long[][] sheets = new long[4][];
    private final int[] bits = new int[4];
    private final List<Integer> trace = new ArrayList<>();
    private final int[] told = new int[6];

    private int error(int k) {
        told[k]++;
        return LOW - k;
    }

    private static boolean in(long v, long a, long b) {
        return v >= a && v <= b;
    }

    int cell(int cell, int what) {
        if (!in(cell, 0, all.wide.size() - 1) || !in(what, 0, 2)) {
            return error(1);
        }
        long[] whats = {all.wide.get(cell), all.salt.get(cell), all.out(cell)};
        return (int) whats[what];
    }

    int shape(int cell, int what, int v) {
        if (!in(cell, 0, all.wide.size() - 1) || !in(what, 0, 1) || !in(v, 0, what == 0 ? 99999 : 999999)) {
            return error(1);
        }
        return (int) (long) (what == 0 ? all.wide : all.salt).set(cell, (long) v);
    }

    int cells(int sheet) {
        if (!in(sheet, 0, 3)) {
            return error(1);
        }
        if (sheets[sheet] == null) {
            return error(2);
        }
        int i = 0;
        for (; i < sheets[sheet].length && i < all.wide.size() && in(sheets[sheet][i], 0, 99999); i++) {
            all.wide.set(i, sheets[sheet][i]);
        }
        return i;
    }

    int set(int what, int v) {
        if (!in(what, 0, 5) || !in(v, RANGES[what][0], RANGES[what][1])) {
            return error(1);
        }
        int was = all.settings[what];
        all.settings[what] = v;
        return was;
    }

    int cause(int kind, int m) {
        if (!in(kind, 0, 6) || !in(m, 0, 99)) {
            return error(1);
        }
        if (all.causes.size() == 6) {
            return error(4);
        }
        all.causes.add(new int[] {kind, m, 1});
        return all.causes.size() - 1;
    }

    private boolean noCause(int cause) {
        return !in(cause, 0, all.causes.size() - 1);
    }

    int ofCause(int cause, int what) {
        return noCause(cause) || !in(what, 0, 2) ? error(1) : all.causes.get(cause)[what];
    }

    int as(int cause, int kind) {
        if (noCause(cause) || !in(kind, 0, 6)) {
            return error(1);
        }
        for (int k = all.causes.get(cause)[0]; k >= 0; k = ABOVE[k]) {
            if (k == kind) {
                return all.causes.get(cause)[1];
            }
        }
        return error(5);
    }

    int turn(int cause, int on) {
        if (noCause(cause) || !in(on, 0, 1)) {
            return error(1);
        }
        int was = all.causes.get(cause)[2];
        all.causes.get(cause)[2] = on;
        return was;
    }

    int freezes(int cause, int cell, int water, int salt) {
        if (noCause(cause) || !in(cell, 0, all.wide.size() - 1) || !in(water, 0, 999999) || !in(salt, 0, 999999)) {
            return error(1);
        }
        return (int) all.freeze(all.causes.get(cause), cell, water, salt, all.settings[3]);
    }

    int feed(long word, int n) {
        if (!in(n, 1, 8)) {
            return error(1);
        }
        if (all.tape.length() + n > 50) {
            return error(4);
        }
        for (int i = 0; i < n; i++) {
            all.tape += (char) (word & 255);
            word >>= 8;
        }
        return all.tape.length();
    }

    int text(int use) {
        if (!in(use, 0, 1)) {
            return error(1);
        }
        String s = all.tape;
        all.tape = "";
        int fault = fault(s);
        if (fault >= 0) {
            return -10 - fault;
        }
        all.texts[use] = s;
        return 1;
    }

    int law(int use, int a, int b, int c) {
        return in(use, 0, 1) ? all.law(use, a, b, c) : error(1);
    }

    int ticks(int n) {
        if (!in(n, 1, 100)) {
            return error(1);
        }
        if (all.now + n > 9999) {
            return error(3);
        }
        all = all.after(n);
        return (int) all.now;
    }

    int gusts(int n) {
        if (!in(n, 1, 100)) {
            return error(1);
        }
        if (all.now + n > 9999) {
            return error(3);
        }
        for (int i = 0; i < n; i++) {
            all.tick(all.draw() % 100);
        }
        return (int) all.now;
    }

    int mass() {
        return (int) all.mass();
    }

    int ring(int i) {
        if (i < -1) {
            return error(1);
        }
        List<Integer> rings = all.rings();
        return i == -1 ? rings.size() : i < rings.size() ? rings.get(i) : error(2);
    }

    int apart() {
        List<Integer> r = all.rings();
        return r.size() < 2 ? error(2) : (r.get(r.size() - 1) - r.get(0)) / (r.size() - 1);
    }

    int then(int n, int what) {
        if (!in(n, 0, 60) || !in(what, 0, 6)) {
            return error(1);
        }
        All a = all.after(n);
        long[] whats = {a.wide.size(), a.rings().size(), a.mass(), a.dripped, a.drips,
            a.wide.get(a.wide.size() - 1), a.sum(a.salt)};
        return (int) whats[what];
    }

    int wide(int n, int cell) {
        if (!in(n, 0, 60) || !in(cell, 0, 39)) {
            return error(1);
        }
        All a = all.after(n);
        return cell < a.wide.size() ? (int) (long) a.wide.get(cell) : error(2);
    }

    int pace(int n) {
        if (!in(n, 0, 60)) {
            return error(1);
        }
        List<Integer> now = all.rings();
        List<Integer> then = all.after(n).rings();
        if (now.size() != then.size() || now.isEmpty()) {
            return error(2);
        }
        int d = 0;
        for (int i = 0; i < now.size(); i++) {
            d += then.get(i) - now.get(i);
        }
        return d;
    }

    int needed(int n) {
        if (!in(n, 0, 60)) {
            return error(1);
        }
        int bits = 0;
        for (int i = 0; i < all.causes.size(); i++) {
            if (all.causes.get(i)[2] == 1) {
                All without = all.copy();
                without.causes.get(i)[2] = 0;
                if (without.after(n).rings().size() < all.after(n).rings().size()) {
                    bits += 1 << i;
                }
            }
        }
        return bits;
    }

    int little(int n, int r) {
        if (!in(n, 0, 60) || !in(r, 0, 40)) {
            return error(1);
        }
        for (int s = 0; s < 100; s++) {
            All a = all.copy();
            a.settings[1] = s;
            if (a.after(n).rings().size() >= r) {
                return s;
            }
        }
        return error(2);
    }

    private static int breaksAfter(All from, int n) {
        All a = from.copy();
        for (int i = 0; i <= n; i++) {
            if (!a.hangs()) {
                return i;
            }
            a = a.after(1);
        }
        return -1;
    }

    int breaks(int n) {
        if (!in(n, 0, 60)) {
            return error(1);
        }
        int i = breaksAfter(all, n);
        return i < 0 ? error(2) : i;
    }

    int falls(int n) {
        if (!in(n, 0, 60)) {
            return error(1);
        }
        int best = 1000;
        for (int c = -50; c < 100; c++) {
            All a = all.copy();
            a.settings[2] = c;
            if (breaksAfter(a, n) < 0) {
                best = c;
            }
        }
        return best == 1000 ? error(2) : best;
    }

    int off(int sheet) {
        if (!in(sheet, 0, 3)) {
            return error(1);
        }
        return sheets[sheet] == null ? error(2) : (int) all.off(sheets[sheet]);
    }

    int made(int sheet, int n, int what) {
        if (!in(sheet, 0, 3) || !in(n, 0, 60) || !in(what, 0, 1)) {
            return error(1);
        }
        if (sheets[sheet] == null) {
            return error(2);
        }
        long[] best = {-1, -1};
        for (int set = (1 << all.causes.size()) - 1; set >= 0; set--) {
            All a = all.first();
            a.only(set);
            long off = a.after(n).off(sheets[sheet]);
            if (best[0] < 0 || off <= best[1]) {
                best = new long[] {set, off};
            }
        }
        return (int) best[what];
    }

    int blown(int sheet, int n) {
        if (!in(sheet, 0, 3) || !in(n, 0, 60)) {
            return error(1);
        }
        if (sheets[sheet] == null) {
            return error(2);
        }
        long[] best = {-1, -1};
        for (int wind = 99; wind >= 0; wind--) {
            All a = all.first();
            a.settings[3] = wind;
            long off = a.after(n).off(sheets[sheet]);
            if (best[0] < 0 || off <= best[1]) {
                best = new long[] {wind, off};
            }
        }
        return (int) best[0];
    }

    int box(int cold, int wind, int salty) {
        if (!in(cold, -50, 99) || !in(wind, 0, 99) || !in(salty, 0, 99)) {
            return error(1);
        }
        if (all.boxes.size() == 5) {
            return error(4);
        }
        all.boxes.add(new int[] {cold, wind, salty});
        return all.boxes.size() - 1;
    }

    int tries(int n) {
        if (!in(n, 0, 60)) {
            return error(1);
        }
        if (all.boxes.isEmpty()) {
            return error(2);
        }
        int best = 0;
        int most = -1;
        for (int b = all.boxes.size() - 1; b >= 0; b--) {
            List<List<Long>> ends = new ArrayList<>();
            for (int i = 0; i < all.causes.size(); i++) {
                All a = all.first();
                a.settings[2] = all.boxes.get(b)[0];
                a.settings[3] = all.boxes.get(b)[1];
                a.settings[1] = all.boxes.get(b)[2];
                a.only(1 << i);
                ends.add(a.after(n).wide);
            }
            int pairs = 0;
            for (int i = 0; i < ends.size(); i++) {
                for (int j = i + 1; j < ends.size(); j++) {
                    pairs += ends.get(i).equals(ends.get(j)) ? 0 : 1;
                }
            }
            if (pairs >= most) {
                most = pairs;
                best = b;
            }
        }
        return best;
    }

    int seed(int v) {
        int was = all.z;
        all.z = v;
        return was;
    }

    /** KIND -> VOICE -> BODY. */
    private static final Map<Integer, Integer> BODIES = new HashMap<>();

    static {
        int[][] rows = {{0, 0, 10}, {0, 1, 11}, {0, 2, 12}, {0, 3, 13}, {1, 1, 20}, {2, 0, 30}, {3, 2, 40}, {3, 0, 41},
            {4, 3, 50}, {5, 2, 60}, {6, 1, 70}, {6, 3, 71}};
        for (int[] r : rows) {
            BODIES.put(r[0] * 4 + r[1], r[2]);
        }
    }

    private int say(int from, int act, int x, int n) {
        int kind = from;
        while (!BODIES.containsKey(kind * 4 + act)) {
            kind = ABOVE[kind];
        }
        int body = BODIES.get(kind * 4 + act);
        if (trace.size() < 40) {
            trace.add(body);
        }
        int own = all.causes.get(n)[0];
        int m = all.causes.get(n)[1];
        int up = ABOVE[kind];
        int left;
        switch (body) {
            case 10: return x + n;
            case 11: return say(own, 0, x, n) * 2;
            case 12: return x - m;
            case 13:
                left = say(own, 1, x, n);
                return left ^ say(own, 2, x, n);
            case 20:
                left = say(up, 1, x, n);
                return left - say(own, 2, 1, n);
            case 30: return say(up, 0, x, n) * 3;
            case 40: return -say(up, 2, x, n);
            case 41: return say(up, 0, x + 1, n);
            case 50:
                left = say(up, 3, x, n);
                return left - say(own, 0, 2, n);
            case 60: return say(up, 2, x, n) ^ n;
            case 70: return say(up, 1, x, n) + m;
            default:
                left = say(own, 1, x, n);
                return left - say(up, 3, x, n);
        }
    }

    int voice(int cause, int act, int x) {
        if (noCause(cause) || !in(act, 0, 3)) {
            return error(1);
        }
        trace.clear();
        return say(all.causes.get(cause)[0], act, x, cause);
    }

    int trace(int i) {
        return in(i, 0, trace.size() - 1) ? trace.get(i) : error(2);
    }

    int sheet(int sheet, int width, int n) {
        if (!in(sheet, 0, 3) || width != 0 && width != 8 && width != 16 && width != 32) {
            return error(1);
        }
        if (width == 0) {
            sheets[sheet] = null;
            return 1;
        }
        if (n < 0) {
            return error(3);
        }
        if (n > 40) {
            return error(1);
        }
        sheets[sheet] = new long[n];
        bits[sheet] = width;
        return 1;
    }

    private long cut(int sheet, long v) {
        int shift = 64 - bits[sheet];
        return v << shift >> shift;
    }

    int put(int sheet, int i, int v) {
        if (!in(sheet, 0, 3)) {
            return error(1);
        }
        if (sheets[sheet] == null) {
            return error(2);
        }
        if (!in(i, 0, sheets[sheet].length - 1)) {
            return error(1);
        }
        sheets[sheet][i] = cut(sheet, v);
        return 1;
    }

    int move(int sheet, int i, int other, int j, int n) {
        if (!in(sheet, 0, 3) || !in(other, 0, 3)) {
            return error(1);
        }
        if (sheets[sheet] == null || sheets[other] == null) {
            return error(2);
        }
        if (bits[sheet] != bits[other]) {
            return error(5);
        }
        if (i < 0 || j < 0 || n < 0 || (long) i + n > sheets[sheet].length || (long) j + n > sheets[other].length) {
            return error(1);
        }
        long[] were = sheets[sheet].clone();
        for (int k = 0; k < n; k++) {
            sheets[other][j + k] = were[i + k];
        }
        return n;
    }

    int draw(int sheet) {
        if (!in(sheet, 0, 3)) {
            return error(1);
        }
        if (sheets[sheet] == null) {
            return error(2);
        }
        int i = 0;
        for (; i < sheets[sheet].length && i < all.wide.size(); i++) {
            sheets[sheet][i] = cut(sheet, all.wide.get(i));
        }
        return i;
    }

    int image() {
        image = all.copy();
        return ++images;
    }

    int restore() {
        if (image == null) {
            return error(2);
        }
        all = image.copy();
        return (int) all.now;
    }

    int tell(int v) {
        if (all.waiting.size() == 20) {
            return error(4);
        }
        all.waiting.add(v);
        return all.waiting.size();
    }

    int check(int n) {
        List<Integer> w = all.waiting;
        all.waiting = new ArrayList<>();
        if (!in(n, 0, 60)) {
            return error(1);
        }
        List<Integer> r = all.after(n).rings();
        for (int i = 0; i < w.size() || i < r.size(); i++) {
            if (i >= w.size() || i >= r.size() || !w.get(i).equals(r.get(i))) {
                return 1 + i;
            }
        }
        return 0;
    }

    int count(int what) {
        long[] whats = {all.now, all.wide.size(), all.causes.size(), all.boxes.size(), all.dripped, all.drips,
            all.tape.length(), all.waiting.size(), trace.size(), all.z};
        return in(what, 0, 9) ? (int) whats[what] : error(1);
    }

    int told(int k) {
        return in(k, 1, 5) ? told[k] : error(1);
    }

    /** -1 without a FAULT: a machine over bytes with the open ( and ! on a stack. */
    static int fault(String s) {
        String open = "";
        boolean wants = true;
        int digits = 0;
        boolean[] compared = new boolean[8];
        int level = 0;
        for (int i = 0; i < s.length(); i++) {
            char b = s.charAt(i);
            if (wants) {
                if (b == '!' || b == '(') {
                    if (open.length() == 5) {
                        return i;
                    }
                    open += b;
                    if (b == '(') {
                        compared[++level] = false;
                    }
                    continue;
                }
                boolean digit = b >= '0' && b <= '9';
                if (!digit && b != 't' && b != 'w' && b != 'c') {
                    return i;
                }
                digits = digit ? 1 : 4;
                wants = false;
                open = withoutNots(open);
            } else if (b >= '0' && b <= '9' && digits < 4) {
                digits++;
            } else if (b == ')' && open.endsWith("(")) {
                open = withoutNots(open.substring(0, open.length() - 1));
                level--;
                digits = 4;
            } else if ("+-*/%".indexOf(b) >= 0) {
                wants = true;
            } else if (b == '|' || b == '&') {
                wants = true;
                compared[level] = false;
            } else if ("<=>".indexOf(b) >= 0 && !compared[level]) {
                wants = true;
                compared[level] = true;
            } else {
                return i;
            }
        }
        return wants || !open.isEmpty() ? s.length() : -1;
    }

    private static String withoutNots(String open) {
        while (open.endsWith("!")) {
            open = open.substring(0, open.length() - 1);
        }
        return open;
    }

    /** The place of the last of some signs that stand in no ( ), -1 if there is none. */
    private static int lastOf(String s, String signs) {
        int depth = 0;
        for (int i = s.length() - 1; i >= 0; i--) {
            char b = s.charAt(i);
            depth += b == ')' ? 1 : b == '(' ? -1 : 0;
            if (depth == 0 && signs.indexOf(b) >= 0) {
                return i;
            }
        }
        return -1;
    }

    static int value(String s, int t, int w, int c) {
        for (String signs : new String[] {"|", "&", "<=>", "+-", "*/%"}) {
            int i = lastOf(s, signs);
            if (i >= 0) {
                return join(s.charAt(i), value(s.substring(0, i), t, w, c), value(s.substring(i + 1), t, w, c));
            }
        }
        switch (s.charAt(0)) {
            case '!': return value(s.substring(1), t, w, c) == 0 ? 1 : 0;
            case '(': return value(s.substring(1, s.length() - 1), t, w, c);
            case 't': return t;
            case 'w': return w;
            case 'c': return c;
            default: return Integer.parseInt(s);
        }
    }

    private static int join(char sign, long a, long b) {
        boolean yes;
        switch (sign) {
            case '+': return (int) (a + b);
            case '-': return (int) (a - b);
            case '*': return (int) (a * b);
            case '/': return b == 0 ? 0 : (int) (a / b);
            case '%': return b == 0 ? 0 : (int) (a % b);
            case '<': yes = a < b; break;
            case '=': yes = a == b; break;
            case '>': yes = a > b; break;
            case '&': yes = a != 0 & b != 0; break;
            default: yes = a != 0 | b != 0;
        }
        return yes ? 1 : 0;
    }
}
