import java.util.ArrayList;
import java.util.List;

/** All that an object answers about itself, so that two of them can be compared. It is used up by that. */
final class Probe {
    private final TuneLocks x;
    private final List<String> answers = new ArrayList<>();

    private Probe(TuneLocks x) {
        this.x = x;
    }

    static List<String> of(TuneLocks x) {
        Probe p = new Probe(x);
        p.town();
        p.earnest("as it is");
        p.thief();
        for (int box = 0; box < 3; box++) {
            p.add("back(" + box + ")", x.back(box));
            p.earnest("behind back(" + box + ")");
        }
        p.goOn();
        p.tape();
        return p.answers;
    }

    private void add(String call, long answer) {
        answers.add(call + " = " + answer);
    }

    private void town() {
        for (int i = 0; i < 8; i++) {
            add("about(" + i + ")", x.about(i));
        }
        add("fault(0)", x.fault(0));
        add("fault(1)", x.fault(1));
        for (int t = 0; t < 4; t++) {
            add("notes(" + t + ")", x.notes(t));
            add("step(" + t + ", 0)", x.step(t, 0));
            add("round(" + t + ", 1)", x.round(t, 1));
            add("doors(" + t + ", day)", x.doors(t, false));
            add("doors(" + t + ", night)", x.doors(t, true));
        }
    }

    private void earnest(String when) {
        add("notes of the voice " + when, x.about(2));
        add("night " + when, x.about(3));
        for (int l = 0; l < 3; l++) {
            for (int what = 0; what < 3; what++) {
                add("lock(" + l + ", " + what + ") " + when, x.lock(l, what));
            }
        }
        for (int t = 0; t < 4; t++) {
            add("heard(" + t + ", 0) " + when, x.heard(t, 0));
            add("heard(" + t + ", 1) " + when, x.heard(t, 1));
        }
    }

    private void thief() {
        int time = x.about(5);
        for (int k : new int[] {-1, 0, time - 1, time, time + 1}) {
            add("left(" + k + ")", x.left(k));
            add("next(0, " + k + ")", x.next(0, k));
            add("next(2, " + k + ")", x.next(2, k));
        }
        for (int w = 0; w < 31; w += 5) {
            add("untell(" + w + ")", x.untell(w));
        }
        add("left behind untell", x.left(time));
        add("watch", x.watch(0, true, true));
        add("later(1)", x.later(1));
    }

    private void add(String call, boolean answer) {
        add(call, answer ? 1 : 0);
    }

    /** What comes of singing on shows what answers alone might hide. */
    private void goOn() {
        add("song(0, 0)", x.song(0, 0));
        add("shut(0)", x.shut(0));
        add("sing(9, 1)", x.sing(9, 1));
        earnest("behind singing on");
        add("night(true)", x.night(true));
        add("silence()", x.silence());
    }

    private void tape() {
        add("bytes", x.about(6));
        add("feed", x.feed(0x20202020, 0x20202020, 0x20202020, 0x20202020, 0x20202020));
        add("town()", x.town());
        add("fault(0) of it", x.fault(0));
        add("fault(1) of it", x.fault(1));
        town();
    }
}
