import java.util.List;
import java.util.function.Supplier;
import java.util.function.ToLongFunction;

/**
 * "Doing nothing", "nothing comes", "all stays": behind a call that is refused, or that only asks, an object answers
 * just like one of which it was never asked; in a new object, in one in the midst of things, and in one that is full.
 */
public final class RefusedCallsTest {
    private static final int NONE = TuneLocks.NONE;
    private static final int GAP = TuneLocks.GAP;
    private static final int MIN = Integer.MIN_VALUE;
    private static final int MAX = Integer.MAX_VALUE;

    private static final String TOWN = "tune a of 1 1 3 1;tune b of 5 2 6 2 60 4;tune c of 0 1;tune d of 1 1 3 1 3 2;sweet 1 2;"
            + "lock k near 1 opens in a;lock l near 0 opens notes > 2 and not night;lock m near 3 opens worn < 2 or ends d;";

    private final Check c = new Check();

    public static void main(String[] args) {
        RefusedCallsTest t = new RefusedCallsTest();
        t.ofNewObjects();
        t.inTheMidst();
        t.townWithAFault();
        t.ofFullOnes();
        t.onlyAsking();
        t.c.finish();
    }

    // ---- states

    private static TuneLocks midst() {
        TuneLocks x = Check.told(TOWN);
        x.later(3);
        x.watch(0, false, true);
        x.watch(1, true, false);
        x.song(0, 4);
        x.image(0);
        x.night(true);
        x.song(3, 9);
        x.shut(0);
        x.later(4);
        x.untell(1);
        x.watch(2, false, false);
        x.sing(40, 9);
        x.image(1);
        x.shut(2);
        x.song(3, 9);
        x.night(false);
        Check.put(x, "tune q of 1;");
        x.town();
        x.end(0);
        Check.put(x, "tune q of 1 1 9 1;lock q near 7 opens in q;");
        return x;
    }

    /** Some 290 calls: with those of Probe it stays below 512. */
    private static TuneLocks full() {
        TuneLocks x = midst();
        for (int i = 3; i < 30; i++) {
            x.watch(i % 3, i % 2 == 0, true);
        }
        for (int i = 9; i < 40; i++) {
            x.sing(i, 1);
        }
        x.image(2);
        x.later(993);
        for (int i = 1; i < 100; i++) {
            x.later(1000);
        }
        Check.put(x, " ".repeat(17));
        for (int i = 60; i < 1700; i += 20) {
            x.feed(0x20202020, 0x20202020, 0x20202020, 0x20202020, 0x20202020);
        }
        return x;
    }

    // ---- what is compared

    private void stays(String call, Supplier<TuneLocks> state, ToLongFunction<TuneLocks> refused, long due) {
        TuneLocks asked = state.get();
        c.due(call, refused.applyAsLong(asked), due);
        same(call, asked, state.get());
    }

    private void same(String call, TuneLocks asked, TuneLocks never) {
        List<String> got = Probe.of(asked);
        List<String> want = Probe.of(never);
        for (int i = 0; i < want.size(); i++) {
            c.due("behind " + call + ": " + got.get(i) + " for " + want.get(i), got.get(i).equals(want.get(i)), true);
        }
    }

    private static long bit(boolean b) {
        return b ? 1 : 0;
    }

    // ---- calls

    private void ofNewObjects() {
        Supplier<TuneLocks> made = TuneLocks::new;
        stays("end(1)", made, x -> x.end(1), NONE);
        stays("end(-1)", made, x -> x.end(-1), NONE);
        stays("song(0, 0)", made, x -> x.song(0, 0), NONE);
        stays("shut(0)", made, x -> bit(x.shut(0)), 0);
        stays("watch", made, x -> x.watch(0, false, false), NONE);
        stays("untell(0)", made, x -> bit(x.untell(0)), 0);
        stays("later(1001)", made, x -> x.later(1001), NONE);
        stays("image(3)", made, x -> x.image(3), NONE);
        stays("back(0)", made, x -> x.back(0), NONE);
        stays("sing(61, 1)", made, x -> x.sing(61, 1), NONE);
        stays("later(0)", made, x -> x.later(0), 0);
        stays("night(false)", made, x -> bit(x.night(false)), 0);
        stays("silence()", made, TuneLocks::silence, 0);
        stays("end(0)", made, x -> x.end(0), 0);
        stays("town()", made, TuneLocks::town, 0);
    }

    private void inTheMidst() {
        Supplier<TuneLocks> midst = RefusedCallsTest::midst;
        for (int n : new int[] {44, -1, MIN, MAX}) {
            stays("end(" + n + ")", midst, x -> x.end(n), NONE);
        }
        stays("end(43)", midst, x -> x.end(43), 43);
        for (int[] note : new int[][] {{-1, 1}, {61, 1}, {0, 0}, {0, 10}, {MIN, 1}, {MAX, 1}, {0, MIN}, {0, MAX}, {-1, 0}}) {
            stays("sing(" + note[0] + ", " + note[1] + ")", midst, x -> x.sing(note[0], note[1]), NONE);
        }
        // b has a NOTE of 60 as its last, d one of 1 as its first.
        for (int[] song : new int[][] {{1, 1}, {3, -2}, {0, 61}, {0, -61}, {4, 0}, {-1, 0}, {0, MIN}, {0, MAX}, {MAX, 0}, {2, -1}}) {
            stays("song(" + song[0] + ", " + song[1] + ")", midst, x -> x.song(song[0], song[1]), NONE);
        }
        Supplier<TuneLocks> shut = () -> {
            TuneLocks x = midst();
            x.shut(0);
            return x;
        };
        for (int l : new int[] {0, 3, -1, 32, MIN, MAX}) {
            stays("shut(" + l + ")", shut, x -> bit(x.shut(l)), 0);
        }
        stays("night(false)", midst, x -> bit(x.night(false)), 0);
        for (int l : new int[] {3, -1, MIN, MAX}) {
            stays("watch(" + l + ")", midst, x -> x.watch(l, false, true), NONE);
        }
        for (int w : new int[] {1, 3, -1, 30, MIN, MAX}) {
            stays("untell(" + w + ")", midst, x -> bit(x.untell(w)), 0);
        }
        for (int by : new int[] {-1, 1001, MIN, MAX}) {
            stays("later(" + by + ")", midst, x -> x.later(by), NONE);
        }
        stays("later(0)", midst, x -> x.later(0), 7);
        for (int box : new int[] {3, -1, MIN, MAX}) {
            stays("image(" + box + ")", midst, x -> x.image(box), NONE);
            stays("back(" + box + ")", midst, x -> x.back(box), NONE);
        }
        stays("back(2), of nothing", midst, x -> x.back(2), NONE);
    }

    /** "NONE: a FAULT (all stays)": all but what fault(what) tells. */
    private void townWithAFault() {
        Supplier<TuneLocks> wrong = () -> {
            TuneLocks x = midst();
            Check.put(x, "x");
            return x;
        };
        Supplier<TuneLocks> told = () -> {
            TuneLocks x = wrong.get();
            x.town();
            return x;
        };
        stays("town() once more", told, TuneLocks::town, NONE);
        TuneLocks x = wrong.get();
        c.due("town()", x.town(), NONE);
        c.due("fault(0)", x.fault(0), 2);
        c.due("fault(1)", x.fault(1), 43);
        List<String> got = Probe.of(x);
        List<String> want = Probe.of(wrong.get());
        for (int i = 0; i < want.size(); i++) {
            boolean isFault = want.get(i).startsWith("fault(") && i < 10;
            c.due("behind a fault: " + got.get(i) + " for " + want.get(i), isFault || got.get(i).equals(want.get(i)), true);
        }
    }

    private void ofFullOnes() {
        Supplier<TuneLocks> full = RefusedCallsTest::full;
        stays("feed", full, x -> x.feed(0, 0, 0, 0, 0), NONE);
        stays("sing(0, 1)", full, x -> x.sing(0, 1), NONE);
        stays("song(2, 0)", full, x -> x.song(2, 0), NONE);
        stays("watch", full, x -> x.watch(0, false, true), NONE);
        stays("later(1)", full, x -> x.later(1), NONE);
        stays("later(1000)", full, x -> x.later(1000), NONE);
        stays("later(0)", full, x -> x.later(0), 100000);
        stays("end(1701)", full, x -> x.end(1701), NONE);
        TuneLocks x = full();
        c.due("40 notes", x.about(2), 40);
        c.due("30 watches", x.about(4), 30);
        c.due("the last time", x.about(5), 100000);
        c.due("1,700 bytes", x.about(6), 1700);
    }

    /** What is only asked changes nothing, refused or not. */
    private void onlyAsking() {
        Supplier<TuneLocks> midst = RefusedCallsTest::midst;
        for (int a : new int[] {0, 1, 2, 3, 4, -1, MIN, MAX}) {
            TuneLocks x = midst();
            for (int b : new int[] {0, 1, 4, -1, MAX}) {
                x.fault(a);
                x.notes(a);
                x.step(a, b);
                x.off(a, b, 0);
                x.in(a, b, 2);
                x.doors(a, true);
                x.asked(a, b, true);
                x.dealt(a);
                x.master(a, b);
                x.round(a, b);
                x.good(a, b);
                x.deaf(a, b, 1);
                x.least(a, true);
                x.lock(a, b);
                x.heard(a, b);
                x.left(a);
                x.next(a, b);
                x.about(a);
            }
            same("asking with " + a, x, midst());
        }
        stays("asked(3, 0)", midst, x -> x.asked(3, 0, true), GAP);
        stays("master of all", midst, x -> x.master(15, 6), NONE);
        stays("image(0) and back(0)", () -> {
            TuneLocks x = midst();
            x.image(0);
            return x;
        }, x -> x.back(0), 9);
    }
}
