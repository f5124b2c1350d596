import java.util.ArrayList;
import java.util.List;
import java.util.function.ToIntFunction;

/**
 * "one that answers an ERROR changes nothing but what told() tells": every refused call is made on one of two objects
 * with the same calls behind them; then both are asked, and changed, alike, and must answer alike.
 */
public final class RefusalsTest {
    private static final int BEYOND = Checks.BEYOND;
    private static final int NONE = Checks.NONE;
    private static final int STATE = Checks.STATE;
    private static final int FULL = Checks.FULL;
    private static final int KIND = Checks.KIND;
    private static final int[] FAR = {Integer.MIN_VALUE, -1, Integer.MAX_VALUE};

    /** A state to begin from. */
    private enum From { NEW, USED, FULLEST }

    private record Refused(From from, int error, String name, ToIntFunction<IcicleRings> call) {
    }

    private static final List<Refused> ALL = new ArrayList<>();

    private static void refused(From from, int error, String name, ToIntFunction<IcicleRings> call) {
        ALL.add(new Refused(from, error, name, call));
    }

    /** Refused as BEYOND from each state. */
    private static void beyond(String name, ToIntFunction<IcicleRings> call) {
        for (From from : From.values()) {
            refused(from, BEYOND, name, call);
        }
    }

    private static IcicleRings begun(From from) {
        IcicleRings x = new IcicleRings();
        if (from != From.NEW) {
            use(x);
        }
        if (from == From.FULLEST) {
            fillUp(x);
        }
        return x;
    }

    /** Something of everything, an IMAGE of another state, SHEETS 0 to 2 of unlike bits, SHEET 3 missing. */
    private static void use(IcicleRings x) {
        x.set(0, 30);
        x.set(1, 7);
        x.cause(2, 60);
        x.cause(3, 40);
        x.cause(6, 20);
        x.ticks(3);
        x.seed(77);
        x.box(40, 30, 2);
        Checks.textOf(x, 1, "c+t%3");
        x.image();
        x.gusts(2);
        x.turn(1, 0);
        x.box(10, 90, 5);
        Checks.textOf(x, 0, "w+t*2");
        Checks.feed(x, "w-t");
        x.tell(1);
        x.tell(3);
        x.voice(2, 3, 5);
        x.sheet(0, 8, 5);
        x.sheet(1, 16, 5);
        x.sheet(2, 32, 5);
        for (int i = 0; i < 5; i++) {
            x.put(0, i, 10 * i);
            x.put(1, i, 200 * i);
            x.put(2, i, 9 - 300 * i);
        }
    }

    private static void fillUp(IcicleRings x) {
        x.set(4, 999);
        x.set(2, 0);
        Checks.toTick(x, 9999);
        for (int i = 0; i < 3; i++) {
            x.cause(4 + i % 2, 30 + i);
            x.box(i, i, i);
        }
        Checks.feed(x, "1".repeat(47));
        for (int i = 0; i < 18; i++) {
            x.tell(i);
        }
    }

    private static void listCellsAndCauses() {
        for (int far : FAR) {
            beyond("cell(" + far + ", 0)", x -> x.cell(far, 0));
            beyond("cell(0, " + far + ")", x -> x.cell(0, far));
            beyond("shape(" + far + ", 0, 5)", x -> x.shape(far, 0, 5));
            beyond("shape(0, " + far + ", 5)", x -> x.shape(0, far, 5));
            beyond("shape(0, 0, " + far + ")", x -> x.shape(0, 0, far));
            beyond("shape(0, 1, " + far + ")", x -> x.shape(0, 1, far));
            beyond("cells(" + far + ")", x -> x.cells(far));
            beyond("set(" + far + ", 5)", x -> x.set(far, 5));
            beyond("cause(" + far + ", 5)", x -> x.cause(far, 5));
            beyond("cause(5, " + far + ")", x -> x.cause(5, far));
            beyond("ofCause(" + far + ", 0)", x -> x.ofCause(far, 0));
            beyond("ofCause(0, " + far + ")", x -> x.ofCause(0, far));
            beyond("as(" + far + ", 0)", x -> x.as(far, 0));
            beyond("as(0, " + far + ")", x -> x.as(0, far));
            beyond("turn(" + far + ", 0)", x -> x.turn(far, 0));
            beyond("turn(0, " + far + ")", x -> x.turn(0, far));
            beyond("freezes(" + far + ", 0, 0, 0)", x -> x.freezes(far, 0, 0, 0));
            beyond("freezes(0, " + far + ", 0, 0)", x -> x.freezes(0, far, 0, 0));
            beyond("freezes(0, 0, " + far + ", 0)", x -> x.freezes(0, 0, far, 0));
            beyond("freezes(0, 0, 0, " + far + ")", x -> x.freezes(0, 0, 0, far));
        }
        int[][] settings = {{0, -1, 10000}, {1, -1, 100}, {2, -51, 100}, {3, -1, 100}, {4, 0, 1000}, {5, -1, 10000000}};
        for (int[] s : settings) {
            beyond("set(" + s[0] + ", " + s[1] + ")", x -> x.set(s[0], s[1]));
            beyond("set(" + s[0] + ", " + s[2] + ")", x -> x.set(s[0], s[2]));
        }
        beyond("cell(0, 3)", x -> x.cell(0, 3));
        beyond("cell(40, 0)", x -> x.cell(40, 0));
        beyond("shape(40, 0, 1)", x -> x.shape(40, 0, 1));
        beyond("shape(0, 2, 1)", x -> x.shape(0, 2, 1));
        beyond("shape(0, 0, 100000)", x -> x.shape(0, 0, 100000));
        beyond("shape(0, 1, 1000000)", x -> x.shape(0, 1, 1000000));
        beyond("cells(4)", x -> x.cells(4));
        beyond("set(6, 1)", x -> x.set(6, 1));
        beyond("cause(7, 1)", x -> x.cause(7, 1));
        beyond("cause(1, 100)", x -> x.cause(1, 100));
        beyond("ofCause(6, 0)", x -> x.ofCause(6, 0));
        beyond("as(6, 0)", x -> x.as(6, 0));
        beyond("turn(6, 0)", x -> x.turn(6, 0));
        beyond("turn(0, 2)", x -> x.turn(0, 2));
        refused(From.NEW, NONE, "cells(0)", x -> x.cells(0));
        refused(From.USED, NONE, "cells(3)", x -> x.cells(3));
        refused(From.FULLEST, FULL, "cause(1, 1)", x -> x.cause(1, 1));
        refused(From.USED, KIND, "as(0, 1)", x -> x.as(0, 1));
        refused(From.FULLEST, KIND, "as(2, 2)", x -> x.as(2, 2));
    }

    private static void listTextsAndTicks() {
        for (int far : FAR) {
            beyond("feed(49, " + far + ")", x -> x.feed(49, far));
            beyond("text(" + far + ")", x -> x.text(far));
            beyond("law(" + far + ", 1, 2, 3)", x -> x.law(far, 1, 2, 3));
            beyond("ticks(" + far + ")", x -> x.ticks(far));
            beyond("gusts(" + far + ")", x -> x.gusts(far));
        }
        beyond("feed(49, 0)", x -> x.feed(49, 0));
        beyond("feed(49, 9)", x -> x.feed(49, 9));
        beyond("text(2)", x -> x.text(2));
        beyond("law(2, 1, 2, 3)", x -> x.law(2, 1, 2, 3));
        beyond("ticks(0)", x -> x.ticks(0));
        beyond("ticks(101)", x -> x.ticks(101));
        beyond("gusts(0)", x -> x.gusts(0));
        beyond("gusts(101)", x -> x.gusts(101));
        beyond("ring(-2)", x -> x.ring(-2));
        beyond("ring(the least)", x -> x.ring(Integer.MIN_VALUE));
        refused(From.FULLEST, FULL, "feed(49, 1)", x -> x.feed(49, 1));
        refused(From.FULLEST, FULL, "feed(49, 8)", x -> x.feed(49, 8));
        refused(From.FULLEST, STATE, "ticks(1)", x -> x.ticks(1));
        refused(From.FULLEST, STATE, "ticks(100)", x -> x.ticks(100));
        refused(From.FULLEST, STATE, "gusts(1)", x -> x.gusts(1));
        refused(From.FULLEST, STATE, "gusts(100)", x -> x.gusts(100));
        refused(From.NEW, NONE, "ring(0)", x -> x.ring(0));
        refused(From.USED, NONE, "ring(39)", x -> x.ring(39));
        refused(From.NEW, NONE, "apart()", x -> x.apart());
    }

    private static void listAhead() {
        int[] wrong = {Integer.MIN_VALUE, -1, 61, Integer.MAX_VALUE};
        for (int n : wrong) {
            beyond("then(" + n + ", 0)", x -> x.then(n, 0));
            beyond("wide(" + n + ", 0)", x -> x.wide(n, 0));
            beyond("pace(" + n + ")", x -> x.pace(n));
            beyond("needed(" + n + ")", x -> x.needed(n));
            beyond("little(" + n + ", 0)", x -> x.little(n, 0));
            beyond("breaks(" + n + ")", x -> x.breaks(n));
            beyond("falls(" + n + ")", x -> x.falls(n));
            beyond("made(0, " + n + ", 0)", x -> x.made(0, n, 0));
            beyond("blown(0, " + n + ")", x -> x.blown(0, n));
            beyond("tries(" + n + ")", x -> x.tries(n));
        }
        for (int far : FAR) {
            beyond("then(3, " + far + ")", x -> x.then(3, far));
            beyond("wide(3, " + far + ")", x -> x.wide(3, far));
            beyond("little(3, " + far + ")", x -> x.little(3, far));
            beyond("off(" + far + ")", x -> x.off(far));
            beyond("made(" + far + ", 3, 0)", x -> x.made(far, 3, 0));
            beyond("made(0, 3, " + far + ")", x -> x.made(0, 3, far));
            beyond("blown(" + far + ", 3)", x -> x.blown(far, 3));
            beyond("box(" + far + ", 0, 0)", x -> x.box(far == -1 ? -51 : far, 0, 0));
            beyond("box(0, " + far + ", 0)", x -> x.box(0, far, 0));
            beyond("box(0, 0, " + far + ")", x -> x.box(0, 0, far));
        }
        beyond("then(3, 7)", x -> x.then(3, 7));
        beyond("wide(3, 40)", x -> x.wide(3, 40));
        beyond("little(3, 41)", x -> x.little(3, 41));
        beyond("off(4)", x -> x.off(4));
        beyond("made(4, 3, 0)", x -> x.made(4, 3, 0));
        beyond("made(0, 3, 2)", x -> x.made(0, 3, 2));
        beyond("blown(4, 3)", x -> x.blown(4, 3));
        beyond("box(100, 0, 0)", x -> x.box(100, 0, 0));
        beyond("box(0, 100, 0)", x -> x.box(0, 100, 0));
        beyond("box(0, 0, 100)", x -> x.box(0, 0, 100));
        for (From from : From.values()) {
            refused(from, NONE, "little(9, 40)", x -> x.little(9, 40));
            refused(from, NONE, "off(3)", x -> x.off(3));
            refused(from, NONE, "made(3, 9, 0)", x -> x.made(3, 9, 0));
            refused(from, NONE, "blown(3, 9)", x -> x.blown(3, 9));
        }
        refused(From.NEW, NONE, "wide(9, 1)", x -> x.wide(9, 1));
        refused(From.NEW, NONE, "pace(9)", x -> x.pace(9));
        refused(From.USED, NONE, "breaks(9)", x -> x.breaks(9));
        refused(From.NEW, NONE, "tries(9)", x -> x.tries(9));
        refused(From.FULLEST, FULL, "box(0, 0, 0)", x -> x.box(0, 0, 0));
    }

    private static void listSheetsAndImages() {
        for (int far : FAR) {
            beyond("voice(" + far + ", 0, 0)", x -> x.voice(far, 0, 0));
            beyond("voice(0, " + far + ", 0)", x -> x.voice(0, far, 0));
            beyond("sheet(" + far + ", 8, 1)", x -> x.sheet(far, 8, 1));
            beyond("sheet(0, " + far + ", 1)", x -> x.sheet(0, far, 1));
            beyond("put(" + far + ", 0, 1)", x -> x.put(far, 0, 1));
            beyond("move(" + far + ", 0, 0, 0, 1)", x -> x.move(far, 0, 0, 0, 1));
            beyond("move(0, 0, " + far + ", 0, 1)", x -> x.move(0, 0, far, 0, 1));
            beyond("draw(" + far + ")", x -> x.draw(far));
            beyond("count(" + far + ")", x -> x.count(far));
            beyond("told(" + far + ")", x -> x.told(far));
            refused(From.USED, BEYOND, "put(2, " + far + ", 1)", x -> x.put(2, far, 1));
            refused(From.USED, BEYOND, "move(2, " + far + ", 2, 0, 1)", x -> x.move(2, far, 2, 0, 1));
            refused(From.USED, BEYOND, "move(2, 0, 2, " + far + ", 1)", x -> x.move(2, 0, 2, far, 1));
            refused(From.USED, BEYOND, "move(2, 0, 2, 1, " + far + ")", x -> x.move(2, 0, 2, 1, far));
            for (From from : From.values()) {
                refused(from, NONE, "trace(" + far + ")", x -> x.trace(far));
            }
        }
        beyond("voice(0, 4, 0)", x -> x.voice(0, 4, 0));
        beyond("voice(6, 0, 0)", x -> x.voice(6, 0, 0));
        beyond("sheet(4, 8, 1)", x -> x.sheet(4, 8, 1));
        beyond("sheet(4, 0, 1)", x -> x.sheet(4, 0, 1));
        beyond("sheet(0, 9, 1)", x -> x.sheet(0, 9, 1));
        beyond("sheet(0, 8, 41)", x -> x.sheet(0, 8, 41));
        beyond("put(4, 0, 1)", x -> x.put(4, 0, 1));
        beyond("move(4, 0, 0, 0, 1)", x -> x.move(4, 0, 0, 0, 1));
        beyond("move(0, 0, 4, 0, 1)", x -> x.move(0, 0, 4, 0, 1));
        beyond("draw(4)", x -> x.draw(4));
        beyond("count(10)", x -> x.count(10));
        beyond("told(0)", x -> x.told(0));
        beyond("told(6)", x -> x.told(6));
        refused(From.USED, BEYOND, "put(2, 5, 1)", x -> x.put(2, 5, 1));
        refused(From.USED, BEYOND, "move(2, 0, 2, 1, 5)", x -> x.move(2, 0, 2, 1, 5));
        refused(From.USED, BEYOND, "move(2, 1, 2, 0, 5)", x -> x.move(2, 1, 2, 0, 5));
        refused(From.USED, KIND, "move(0, 0, 1, 0, 1)", x -> x.move(0, 0, 1, 0, 1));
        for (From from : From.values()) {
            refused(from, STATE, "sheet(0, 8, -1)", x -> x.sheet(0, 8, -1));
            refused(from, NONE, "put(3, 0, 1)", x -> x.put(3, 0, 1));
            refused(from, NONE, "move(3, 0, 3, 0, 1)", x -> x.move(3, 0, 3, 0, 1));
            refused(from, NONE, "draw(3)", x -> x.draw(3));
            refused(from, NONE, "trace(40)", x -> x.trace(40));
        }
        refused(From.USED, NONE, "move(3, 0, 2, 0, 1)", x -> x.move(3, 0, 2, 0, 1));
        refused(From.USED, NONE, "move(2, 0, 3, 0, 1)", x -> x.move(2, 0, 3, 0, 1));
        refused(From.NEW, NONE, "restore()", x -> x.restore());
        refused(From.FULLEST, FULL, "tell(5)", x -> x.tell(5));
    }

    private static void asked(IcicleRings x, List<Integer> answers) {
        int[] counts = new int[10];
        for (int i = 0; i < 10; i++) {
            counts[i] = x.count(i);
            answers.add(counts[i]);
        }
        for (int i = 0; i < counts[1]; i++) {
            answers.add(x.cell(i, 0));
            answers.add(x.cell(i, 1));
        }
        for (int i = 0; i < counts[2]; i++) {
            for (int what = 0; what < 3; what++) {
                answers.add(x.ofCause(i, what));
            }
        }
        for (int i = 0; i < counts[8]; i++) {
            answers.add(x.trace(i));
        }
        int[] allowed = {200, 0, 20, 0, 50, 100000};
        for (int i = 0; i < 6; i++) {
            int was = x.set(i, allowed[i]);
            answers.add(was);
            x.set(i, was);
        }
        answers.add(x.law(0, 11, 22, 33));
        answers.add(x.law(1, 11, 22, 33));
    }

    /** What SHEETS, BOXES and numbers that wait are can only be seen by acts that change something. */
    private static void used(IcicleRings x, List<Integer> answers) {
        for (int sheet = 0; sheet < 4; sheet++) {
            answers.add(x.off(sheet));
            for (int i = 0; i < 6; i++) {
                answers.add(x.put(sheet, i, 0));
                answers.add(x.off(sheet));
            }
        }
        answers.add(x.tries(3));
        answers.add(x.check(1));
        answers.add(x.text(0));
        answers.add(x.law(0, 11, 22, 33));
        answers.add(x.gusts(1));
        answers.add(x.ticks(2));
        answers.add(x.image());
        answers.add(x.box(1, 2, 3));
        answers.add(x.cause(5, 50));
        answers.add(x.then(5, 2));
    }

    private static List<Integer> answers(IcicleRings x) {
        List<Integer> all = new ArrayList<>();
        asked(x, all);
        // SHEETS aren't in the IMAGE: what the IMAGE is comes after them
        used(x, all);
        return all;
    }

    private static List<Integer> answersOfImage(IcicleRings x) {
        List<Integer> all = new ArrayList<>();
        all.add(x.restore());
        asked(x, all);
        used(x, all);
        return all;
    }

    private static IcicleRings after(Refused r) {
        IcicleRings x = begun(r.from);
        int[] told = new int[6];
        for (int k = 1; k <= 5; k++) {
            told[k] = x.told(k);
        }
        Checks.due(r.from + " " + r.name, r.call.applyAsInt(x), r.error);
        for (int k = 1; k <= 5; k++) {
            int more = r.error == -1000000000 - k ? 1 : 0;
            Checks.due(r.from + " " + r.name + " told " + k, x.told(k), told[k] + more);
        }
        return x;
    }

    private static void look(Refused r) {
        Checks.holds(r.from + " " + r.name + " changes nothing", answers(after(r)).equals(answers(begun(r.from))));
        Checks.holds(r.from + " " + r.name + " leaves the IMAGE",
            answersOfImage(after(r)).equals(answersOfImage(begun(r.from))));
    }

    public static void main(String[] args) {
        Checks.says("Terms", "one that answers an ERROR changes nothing but what told() tells");
        listCellsAndCauses();
        listTextsAndTicks();
        listAhead();
        listSheetsAndImages();
        for (Refused r : ALL) {
            look(r);
        }
        Checks.end();
    }
}
