import java.nio.charset.StandardCharsets;
import java.util.Arrays;

/** What the tests share: counts wrong answers, and puts a text on the TAPE. */
final class Check {
    private int wrong;

    void due(String call, long got, long want) {
        if (got != want) {
            wrong++;
            System.out.println(call + " answered " + got + ", due is " + want);
        }
    }

    void due(String call, boolean got, boolean want) {
        due(call, got ? 1 : 0, want ? 1 : 0);
    }

    int wrong() {
        return wrong;
    }

    void finish() {
        System.out.println(wrong == 0 ? "all answers are as due" : wrong + " answers are not as due");
        if (wrong != 0) {
            System.exit(1);
        }
    }

    /** A text with a FAULT. A sign ^ tells the place that is due; it isn't put on the TAPE. */
    void bad(int fault, String marked) {
        int place = marked.indexOf('^');
        bad(fault, place, marked.substring(0, place) + marked.substring(place + 1));
    }

    void bad(int fault, int place, String text) {
        TuneLocks x = new TuneLocks();
        put(x, text);
        due("town of " + text, x.town(), TuneLocks.NONE);
        due("fault of " + text, x.fault(0), fault);
        due("place of " + text, x.fault(1), place);
        due("tunes behind the fault of " + text, x.about(0), 0);
        due("tape behind the fault of " + text, x.about(6), text.length());
    }

    /** A text without one. */
    TuneLocks good(String text, int tunes, int locks) {
        TuneLocks x = new TuneLocks();
        put(x, text);
        due("town of " + text, x.town(), locks);
        due("fault of " + text, x.fault(0), 0);
        due("place of " + text, x.fault(1), TuneLocks.NONE);
        due("tunes of " + text, x.about(0), tunes);
        due("locks of " + text, x.about(1), locks);
        return x;
    }

    static void put(TuneLocks x, String text) {
        byte[] bytes = text.getBytes(StandardCharsets.ISO_8859_1);
        int before = x.about(6);
        byte[] padded = Arrays.copyOf(bytes, (bytes.length + 19) / 20 * 20);
        for (int i = 0; i < padded.length; i += 20) {
            if (x.feed(number(padded, i), number(padded, i + 4), number(padded, i + 8),
                    number(padded, i + 12), number(padded, i + 16)) < 0) {
                throw new IllegalStateException("the text is too long: " + text.length());
            }
        }
        x.end(before + bytes.length);
    }

    static int number(byte[] bytes, int at) {
        return (bytes[at] & 255) << 24 | (bytes[at + 1] & 255) << 16 | (bytes[at + 2] & 255) << 8 | bytes[at + 3] & 255;
    }

    /** A new object with that TOWN, which must have no FAULT. */
    static TuneLocks told(String text) {
        TuneLocks x = new TuneLocks();
        put(x, text);
        if (x.town() < 0) {
            throw new IllegalStateException("fault " + x.fault(0) + " at " + x.fault(1) + " of " + text);
        }
        return x;
    }
}
