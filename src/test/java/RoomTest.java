import java.lang.management.ManagementFactory;
import java.util.Random;

/**
 * All that a run makes is kept in one room of some 7.3 million fields and elements. Each of them is
 * one byte at least, most are four: so a run that makes less than 7.3 million bytes has room.
 */
public final class RoomTest {
    private static final long ROOM = 7_300_000L;
    private static final int CALLS = 512;

    public static void main(String[] args) {
        // once unmeasured, so that loading the classes is not counted
        searches();
        forms();
        gates();
        objects();
        Check.due("searches", measured(0) < ROOM, true);
        Check.due("forms", measured(1) < ROOM, true);
        Check.due("gates", measured(2) < ROOM, true);
        // a new object at every third call, and the longest rows in each of them: four bytes an element
        Check.due("objects", measured(3) < 4 * ROOM, true);
        Check.finish();
    }

    private static long measured(int which) {
        var threads = (com.sun.management.ThreadMXBean) ManagementFactory.getThreadMXBean();
        long before = threads.getCurrentThreadAllocatedBytes();
        switch (which) {
            case 0 -> searches();
            case 1 -> forms();
            case 2 -> gates();
            default -> objects();
        }
        long made = threads.getCurrentThreadAllocatedBytes() - before;
        System.out.println("made in run " + which + ": " + made + " bytes");
        return made;
    }

    private static void searches() {
        ReversibleParts x = new ReversibleParts();
        Random random = new Random(7);
        x.program(12);
        for (int step = 1; step < 12; step++) {
            x.need(step, 1 << (step - 1));
        }
        for (int call = 12; call < CALLS; call += 2) {
            int step = 1 + random.nextInt(11);
            x.need(step, 1 << (step - 1) | 1 << random.nextInt(step));
            x.marks();
        }
    }

    private static void forms() {
        ReversibleParts x = new ReversibleParts();
        for (int call = 0; call < CALLS; call += 2) {
            x.begin(4 - call / 2 % 2);
            x.form(0x6996 ^ call, ReversibleParts.NONE);
        }
    }

    private static void gates() {
        ReversibleParts x = new ReversibleParts();
        x.begin(4);
        for (int call = 2; call < CALLS; call += 2) {
            x.apply(call % 64);
            x.gate(ReversibleParts.NONE);
        }
    }

    private static void objects() {
        for (int call = 0; call < CALLS; call += 3) {
            ReversibleParts x = new ReversibleParts();
            x.program(12);
            x.move(12, 0);
        }
    }
}
