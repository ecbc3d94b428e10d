import java.lang.management.ManagementFactory;

/**
 * LANGUAGE.md, 12: "What a run makes is counted .. keep it small". An object makes its rows once; behind that no call
 * makes anything but town(), which makes a Reader. Counted in bytes.
 */
public final class RoomTest {
    // Some 7,000 fields and elements: of the room of 7.3 million a thousandth.
    private static final long OF_A_NEW_ONE = 40 * 1024;
    private static final long OF_A_READER = 128;
    // Counting takes some bytes itself; sixteen calls that make the smallest object of all take 256.
    private static final long OF_COUNTING = 200;
    private static final String TOWN = "tune a of 1 1 3 1;tune b of 5 2 6 2 60 4;tune c of 0 1;tune d of 1 1 3 1 3 2;"
            + "tune e of 0 1 9 1;tune f of 0 1 8 1;tune g of 0 1 7 1;sweet 1 2;"
            + "lock k near 1 opens in a;lock l near 0 opens notes > 2 and not night;lock m near 3 opens worn < 2 or ends d;";

    private final Check c = new Check();
    private final com.sun.management.ThreadMXBean counter =
            (com.sun.management.ThreadMXBean) ManagementFactory.getThreadMXBean();
    private int sink;

    public static void main(String[] args) {
        RoomTest t = new RoomTest();
        if (!t.counter.isThreadAllocatedMemorySupported()) {
            System.out.println("this machine does not count what is made");
            return;
        }
        t.counter.setThreadAllocatedMemoryEnabled(true);
        t.newObject();
        t.townAfterTown();
        t.allOtherCalls();
        t.c.finish();
    }

    private long taken() {
        return counter.getThreadAllocatedBytes(Thread.currentThread().getId());
    }

    private void atMost(String what, long before, long most) {
        long bytes = taken() - before;
        c.due(what + " takes " + bytes + " bytes of " + most, bytes <= most, true);
    }

    private void newObject() {
        // The first one of all loads the classes, which is not its own room.
        sink += new TuneLocks().town();
        long before = taken();
        TuneLocks x = new TuneLocks();
        atMost("a new object", before, OF_A_NEW_ONE);
        sink += x.about(0);
    }

    private void townAfterTown() {
        TuneLocks x = Check.told(TOWN);
        TuneLocks wrong = new TuneLocks();
        Check.put(wrong, TOWN + "tune");
        long before = taken();
        for (int i = 0; i < 400; i++) {
            sink += x.town() + wrong.town();
        }
        atMost("town() again and again", before, 2 * 400 * OF_A_READER);
    }

    private void allOtherCalls() {
        // Called once ahead of it, since the machine links at the first time.
        call(Check.told(TOWN));
        TuneLocks x = Check.told(TOWN);
        long before = taken();
        call(x);
        atMost("480 other calls", before, OF_COUNTING);
    }

    /** 480 calls, each of the face but town() among them. */
    private void call(TuneLocks x) {
        for (int i = 0; i < 16; i++) {
            sink += x.feed(i, i, i, i, i) + x.end(i) + x.fault(0) + x.notes(i) + x.step(i, 0) + x.off(0, 1, 0);
            sink += x.in(0, 1, 2) + x.doors(1, true) + x.asked(2, 1, true) + x.dealt(i) + x.master(119, i % 7) + x.round(1, i);
            sink += x.good(1, 1) + x.deaf(0, 1, i) + x.least(0, true) + x.sing(i, 1) + x.song(1, -i) + x.heard(1, 2);
            sink += (x.shut(0) ? 1 : 0) + (x.night(i % 2 == 0) ? 1 : 0) + x.lock(0, 2) + x.watch(1, true, false);
            sink += (x.untell(i) ? 1 : 0) + x.later(i) + x.left(i) + x.next(0, i) + x.image(i % 3) + x.silence() + x.back(i % 3);
            sink += x.about(7);
        }
    }
}
