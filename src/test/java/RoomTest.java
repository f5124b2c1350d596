import java.lang.management.ManagementFactory;

/** What 512 calls make: the room for all calls of a run is some 7.3 million fields and elements. */
public final class RoomTest {
    private static final int CALLS = 512;
    private static final long MOST_BYTES = 2_000_000;

    private static long made() {
        return ((com.sun.management.ThreadMXBean) ManagementFactory.getThreadMXBean()).getCurrentThreadAllocatedBytes();
    }

    /** 40 CELLS, six CAUSES, five BOXES, TEXTS, SHEETS, an IMAGE. */
    private static IcicleRings great() {
        IcicleRings x = new IcicleRings();
        x.set(0, 20);
        x.ticks(39);
        x.set(0, 9999);
        x.set(4, 1);
        for (int i = 0; i < 6; i++) {
            x.cause(new int[] {4, 3, 6, 5, 2, 1}[i], 1);
        }
        for (int i = 0; i < 5; i++) {
            x.box(i, i, i);
        }
        Checks.feed(x, "(t+w*c/3%4-5<6)=!(7>8)|9&1+(2-(3*(4+t))))*0+9999");
        x.text(0);
        Checks.feed(x, "c+0*(t+w*c/3%4-5<6)=!(7>8)|9&1");
        x.text(1);
        for (int i = 0; i < 4; i++) {
            x.sheet(i, 32, 40);
        }
        x.image();
        return x;
    }

    private static int call(IcicleRings x, int which) {
        switch (which) {
            case 0: return x.then(5, 1);
            case 1: return x.needed(5);
            case 2: return x.little(5, 20);
            case 3: return x.falls(5);
            case 4: return x.made(0, 5, 0);
            case 5: return x.blown(0, 5);
            case 6: return x.tries(5);
            case 7: return x.voice(2, 3, 5);
            case 8: return x.image() + x.restore();
            case 9: return x.check(5);
            case 10: return x.sheet(0, 32, 40);
            case 11: return x.feed(0x312B312B312B312BL, 8) + x.text(0);
            case 12: return x.ring(-1) + x.apart() + x.pace(3);
            case 13: return x.cause(1, 1) + x.box(0, 0, 0) + x.tell(1);
            case 14: return x.ticks(10) + x.gusts(5) + x.restore();
            default: return new IcicleRings().mass();
        }
    }

    public static void main(String[] args) {
        for (int which = 0; which < 16; which++) {
            IcicleRings x = great();
            call(x, which);
            long before = made();
            for (int i = 0; i < CALLS; i++) {
                call(x, which);
            }
            long after = made();
            long most = which == 15 ? 4 * MOST_BYTES : MOST_BYTES;
            Checks.holds("call " + which + " makes " + (after - before) + " bytes: few", after - before < most);
        }
        IcicleRings x = great();
        Checks.holds("the dearest calls end", x.falls(60) != x.little(60, 40) || x.made(0, 60, 0) >= 0 && x.tries(60) >= 0);
        Checks.end();
    }
}
