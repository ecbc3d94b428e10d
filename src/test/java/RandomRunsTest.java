import java.nio.charset.StandardCharsets;
import java.util.Arrays;
import java.util.Random;

/** Runs of calls by chance (always the same ones) on the program and on the plain one: each answer must be alike. */
public final class RandomRunsTest {
    private static final int RUNS = 1200;
    private static final int CALLS = 400;

    private final Random random;
    private final Check check;
    private final TuneLocks x = new TuneLocks();
    private final Plain y = new Plain();
    private int tunesTold;
    // In some runs doors are shut and sung to again and again, so that they wear.
    private final boolean wearing;

    private RandomRunsTest(long seed, Check check) {
        random = new Random(seed);
        wearing = seed % 3 == 0;
        this.check = check;
    }

    public static void main(String[] args) {
        Check check = new Check();
        for (int run = 0; run < RUNS && check.wrong() < 20; run++) {
            int before = check.wrong();
            RandomRunsTest test = new RandomRunsTest(run, check);
            test.run();
            if (check.wrong() > before) {
                System.out.println("  in run " + run);
            }
        }
        check.finish();
    }

    private int upTo(int n) {
        return random.nextInt(n + 1);
    }

    private boolean oneOf(int n) {
        return random.nextInt(n) == 0;
    }

    private void run() {
        for (int i = 0; i < CALLS; ) {
            if (i == 0 || oneOf(wearing ? 300 : 60)) {
                i += tell();
            } else {
                if (wearing && oneOf(2)) {
                    wear();
                } else {
                    call();
                }
                i++;
            }
        }
    }

    private int tell() {
        String text = text();
        if (oneOf(3)) {
            text = spoilt(text);
        }
        if (text.length() > 1700) {
            text = text.substring(0, 1700);
        }
        due("end(0)", x.end(0), y.end(0));
        byte[] bytes = Arrays.copyOf(text.getBytes(StandardCharsets.ISO_8859_1), (text.length() + 19) / 20 * 20);
        for (int i = 0; i < bytes.length; i += 20) {
            int[] n = new int[5];
            for (int j = 0; j < 5; j++) {
                n[j] = Check.number(bytes, i + j * 4);
            }
            due("feed", x.feed(n[0], n[1], n[2], n[3], n[4]), y.feed(n));
        }
        due("end", x.end(text.length()), y.end(text.length()));
        due("town of " + text, x.town(), y.town());
        due("fault(0) of " + text, x.fault(0), y.fault(0));
        due("fault(1) of " + text, x.fault(1), y.fault(1));
        due("about(7)", x.about(7), y.about(7));
        return bytes.length / 20 + 6;
    }

    private void due(String call, long got, long want) {
        check.due(call, got, want);
    }

    private void due(String call, boolean got, boolean want) {
        check.due(call, got, want);
    }

    // ---- texts

    private String text() {
        StringBuilder s = new StringBuilder();
        int tunes = upTo(14);
        int locks = upTo(8);
        tunesTold = 0;
        int sweetAt = oneOf(2) ? upTo(tunes + locks) : -1;
        int lines = tunes + locks;
        int locksTold = 0;
        int spread = 1 + upTo(oneOf(2) ? 3 : 12);
        int longest = 1 + upTo(oneOf(2) ? 4 : 11);
        for (int i = 0; i <= lines; i++) {
            if (i == sweetAt) {
                sweet(s);
            }
            if (i < lines) {
                boolean tune = tunesTold < tunes && (locksTold == locks || !oneOf(5));
                if (tune) {
                    tune(s, spread, longest);
                } else {
                    lock(s, locksTold);
                    locksTold++;
                }
            }
        }
        return s.toString();
    }

    private void sweet(StringBuilder s) {
        s.append("sweet");
        int bits = 1 + upTo(4094);
        for (int i = 0; i < 12; i++) {
            if ((bits >> i & 1) == 1) {
                s.append(oneOf(9) && i < 10 ? " 0" : " ").append(i);
            }
        }
        s.append(oneOf(2) ? ";" : " ;\n");
    }

    private void tune(StringBuilder s, int spread, int longest) {
        s.append("tune ").append((char) ('a' + tunesTold)).append("x of");
        int base = upTo(60 - spread);
        int notes = 1 + upTo(longest);
        int pace = 1 + upTo(2);
        for (int i = 0; i < notes; i++) {
            s.append(' ').append(base + upTo(spread));
            s.append(' ').append(pace * (oneOf(4) ? 2 : 1) + (oneOf(9) ? 3 : 0));
        }
        s.append(oneOf(3) ? " ;\n" : ";");
        tunesTold++;
    }

    private void lock(StringBuilder s, int number) {
        s.append("lock ").append((char) ('a' + number)).append("x near ").append(oneOf(3) ? upTo(20) : upTo(4));
        s.append(" opens ");
        e(s, 0);
        s.append(oneOf(3) ? " ;\n" : ";");
    }

    private void e(StringBuilder s, int depth) {
        int kind = depth > 4 ? 9 : upTo(9);
        if (kind < 2) {
            one(s, depth);
            s.append(kind == 0 ? " or " : " and ");
            one(s, depth);
        } else {
            one(s, depth);
        }
    }

    private void one(StringBuilder s, int depth) {
        if (oneOf(5)) {
            s.append("not ");
            one(s, depth + 1);
            return;
        }
        sum(s, depth);
        if (oneOf(4)) {
            s.append(" <>=+-".charAt(1 + upTo(2)));
            sum(s, depth);
        }
    }

    private void sum(StringBuilder s, int depth) {
        unit(s, depth);
        if (oneOf(5)) {
            s.append(oneOf(2) ? " + " : "-");
            unit(s, depth);
        }
    }

    private void unit(StringBuilder s, int depth) {
        switch (depth > 6 ? upTo(7) : upTo(9)) {
            case 0:
                s.append(upTo(oneOf(5) ? 9999 : 12));
                break;
            case 1:
                s.append("notes");
                break;
            case 2:
                s.append("night");
                break;
            case 3:
                s.append("worn");
                break;
            case 8:
            case 9:
                s.append('(');
                e(s, depth + 1);
                s.append(')');
                break;
            default:
                if (tunesTold == 0) {
                    s.append('1');
                } else {
                    s.append(oneOf(2) ? "in " : oneOf(2) ? "begins " : "ends ");
                    s.append((char) ('a' + random.nextInt(tunesTold))).append('x');
                }
        }
    }

    private static final String[] PIECES = {"tune", "lock", "sweet", "of", "near", "opens", "or", "and", "not", "in",
        "begins", "ends", "night", "notes", "worn", ";", "(", ")", "<", ">", "=", "+", "-", " ", "\n", "ax", "bx",
        "zz", "0", "1", "7", "12", "61", "21", "99999", "abcdefgh", "abcdefghi", "A", "\u00e9", "\u0000", "*", "\t"};

    private String spoilt(String text) {
        StringBuilder s = new StringBuilder(text);
        for (int i = 0; i <= upTo(2); i++) {
            int at = upTo(s.length());
            switch (upTo(4)) {
                case 0:
                    s.insert(at, PIECES[random.nextInt(PIECES.length)]);
                    break;
                case 1:
                    s.delete(at, Math.min(s.length(), at + 1 + upTo(3)));
                    break;
                case 2:
                    s.insert(at, ' ').insert(at, PIECES[random.nextInt(PIECES.length)]).insert(at, ' ');
                    break;
                case 3:
                    int to = upTo(s.length());
                    s.insert(upTo(s.length()), s.substring(Math.min(at, to), Math.max(at, to)));
                    break;
                default:
                    if (oneOf(4)) {
                        s.setLength(at);
                    }
            }
        }
        return s.toString();
    }

    // ---- calls

    private int some(int most) {
        if (oneOf(40)) {
            int[] odd = {-1, Integer.MIN_VALUE, Integer.MAX_VALUE, most + 1, most + 2, 1000, -1000};
            return odd[random.nextInt(odd.length)];
        }
        return upTo(Math.max(0, most));
    }

    private int tune() {
        return some(y.tunes.size() - 1);
    }

    private int lock() {
        return some(y.locks.size() - 1);
    }

    private void call() {
        int a = tune();
        int b = tune();
        int l = lock();
        boolean night = oneOf(2);
        boolean flag = oneOf(2);
        int what = some(2);
        switch (upTo(33)) {
            case 0:
                due("notes", x.notes(a), y.notes(a));
                break;
            case 1:
                int i = some(12);
                due("step", x.step(a, i), y.step(a, i));
                break;
            case 2:
                int p = some(6);
                due("off " + a + " " + b + " " + p, x.off(a, b, p), y.off(a, b, p));
                break;
            case 3:
                due("in " + a + " " + b + " " + what, x.in(a, b, what), y.in(a, b, what));
                break;
            case 4:
                due("doors", x.doors(a, night), y.doors(a, night));
                break;
            case 5:
                due("asked", x.asked(l, a, night), y.asked(l, a, night));
                break;
            case 6:
                int n = oneOf(3) ? some(99) : some(8);
                due("dealt " + n, x.dealt(n), y.dealt(n));
                break;
            case 7:
                master();
                break;
            case 8:
                int d = oneOf(2) ? some(99) : some(9);
                due("round " + a + " " + d, x.round(a, d), y.round(a, d));
                break;
            case 9:
                due("good", x.good(a, what), y.good(a, what));
                break;
            case 10:
                int tone = some(11);
                due("deaf " + a + " " + b + " " + tone, x.deaf(a, b, tone), y.deaf(a, b, tone));
                break;
            case 11:
                due("least", x.least(l, night), y.least(l, night));
                break;
            case 12:
            case 13:
                int high = some(60);
                int length = oneOf(2) ? 1 : some(9);
                due("sing", x.sing(high, length), y.sing(high, length));
                break;
            case 14:
            case 15:
            case 16:
                int higher = oneOf(3) ? some(60) : upTo(8) - 4;
                due("song", x.song(a, higher), y.song(a, higher));
                break;
            case 17:
                if (oneOf(3)) {
                    due("silence", x.silence(), y.silence());
                }
                break;
            case 18:
            case 19:
                due("shut", x.shut(l), y.shut(l));
                break;
            case 20:
                due("night", x.night(night), y.night(night));
                break;
            case 21:
                due("lock", x.lock(l, what), y.lock(l, what));
                break;
            case 22:
                due("heard", x.heard(a, what), y.heard(a, what));
                break;
            case 23:
                // What a TUNE does is told, so that some are LEFT.
                boolean did = y.door(l) && y.tune(a) && y.opens(l, y.tunes.get(a), night, 0);
                boolean told = oneOf(9) ? flag : did;
                due("watch", x.watch(l, night, told), y.watch(l, night, told));
                break;
            case 24:
                int w = some(30);
                due("untell", x.untell(w), y.untell(w));
                break;
            case 25:
                int by = oneOf(5) ? some(1000) : some(3);
                due("later", x.later(by), y.later(by));
                break;
            case 26:
            case 27:
                int k = oneOf(2) ? y.time : some(y.time);
                due("left", x.left(k), y.left(k));
                break;
            case 28:
            case 29:
                int m = oneOf(2) ? y.time : some(y.time);
                due("next", x.next(what, m), y.next(what, m));
                break;
            case 30:
                int in = some(2);
                due("image", x.image(in), y.image(in));
                break;
            case 31:
                int of = some(2);
                due("back", x.back(of), y.back(of));
                break;
            case 32:
                int about = some(7);
                due("about", x.about(about), y.about(about));
                break;
            default:
                due("fault", x.fault(what), y.fault(what));
        }
    }

    private void wear() {
        if (!y.open.isEmpty()) {
            int l = y.open.first();
            due("shut", x.shut(l), y.shut(l));
        } else if (y.voice.size() > 24 || oneOf(5)) {
            due("silence", x.silence(), y.silence());
        } else {
            int t = tune();
            int higher = upTo(8) - 4;
            due("song", x.song(t, higher), y.song(t, higher));
        }
    }

    private void master() {
        int set = 0;
        int most = oneOf(9) ? 8 : 5;
        for (int i = 0; i < most; i++) {
            set |= 1 << upTo(Math.max(0, y.tunes.size() - 1));
        }
        if (oneOf(9)) {
            set = random.nextInt();
        }
        int what = some(6);
        due("master " + set + " " + what, x.master(set, what), y.master(set, what));
    }
}
