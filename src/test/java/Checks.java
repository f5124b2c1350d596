import java.io.IOException;
import java.nio.file.Files;
import java.nio.file.Path;

/** What the project's tests share: wrong answers are printed and counted. */
final class Checks {
    static final int BEYOND = -1000000001;
    static final int NONE = -1000000002;
    static final int STATE = -1000000003;
    static final int FULL = -1000000004;
    static final int KIND = -1000000005;

    private static int wrong = 0;
    private static int asked = 0;
    private static String sentence = "";
    private static int askedBefore = -1;
    private static int sentences = 0;
    private static String document = null;

    private Checks() {
    }

    /** A sentence of the document begins: the checks that follow are its test. */
    static void says(String where, String words) {
        closeSentence();
        sentence = where + " \"" + words + "\": ";
        askedBefore = asked;
        sentences++;
        if (!document().isEmpty() && !document().contains(words.replaceAll("\\s+", " "))) {
            System.out.println("note: the document doesn't have these words any more: " + words);
        }
    }

    private static void closeSentence() {
        if (askedBefore == asked) {
            wrong++;
            System.out.println(sentence + "has no check");
        }
    }

    private static String document() {
        if (document == null) {
            try {
                document = Files.readString(Path.of("../shared/DOC.md")).replaceAll("\\s+", " ");
            } catch (IOException e) {
                document = "";
            }
        }
        return document;
    }

    static void due(String what, long got, long want) {
        asked++;
        if (got != want) {
            wrong++;
            System.out.println(sentence + what + " answered " + got + ", due is " + want);
        }
    }

    static void holds(String what, boolean is) {
        asked++;
        if (!is) {
            wrong++;
            System.out.println(sentence + what + " does not hold");
        }
    }

    /** Feeds a text to THE TAPE; the answer of the last feed. */
    static int feed(IcicleRings x, String bytes) {
        int last = 0;
        for (int i = 0; i < bytes.length(); i += 8) {
            int n = Math.min(8, bytes.length() - i);
            long word = 0;
            for (int k = 0; k < n; k++) {
                word |= (long) (bytes.charAt(i + k) & 255) << 8 * k;
            }
            last = x.feed(word, n);
        }
        return last;
    }

    static int textOf(IcicleRings x, int use, String text) {
        feed(x, text);
        return x.text(use);
    }

    /** An icicle whose CELLS have these WIDE: 20 of water that none freezes makes a CELL each TICK. */
    static IcicleRings icicle(int... wides) {
        IcicleRings x = new IcicleRings();
        x.set(0, 20);
        if (wides.length > 1) {
            x.ticks(wides.length - 1);
        }
        x.set(0, 200);
        for (int i = 0; i < wides.length; i++) {
            x.shape(i, 0, wides[i]);
        }
        return x;
    }

    /** A SHEET of 32 bits with these numbers. */
    static void picture(IcicleRings x, int sheet, int... numbers) {
        x.sheet(sheet, 32, numbers.length);
        for (int i = 0; i < numbers.length; i++) {
            x.put(sheet, i, numbers[i]);
        }
    }

    /** TICKS go by up to one, a hundred in a call. */
    static void toTick(IcicleRings x, int tick) {
        int now = x.count(0);
        while (now >= 0 && now < tick) {
            now = x.ticks(Math.min(100, tick - now));
        }
    }

    static void end() {
        closeSentence();
        String of = sentences > 0 ? " (" + sentences + " sentences)" : "";
        System.out.println(wrong == 0 ? asked + " answers are as due" + of : wrong + " of " + asked + " are not as due");
        if (wrong != 0) {
            System.exit(1);
        }
    }
}
