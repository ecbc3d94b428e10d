/**
 * What a LOCK asks, unit by unit, in each way it can be asked: of a TUNE (asked, doors, least), in earnest, and for the
 * thief; never worn and worn.
 */
public final class LockEdgesTest {
    private static final int NONE = TuneLocks.NONE;
    private static final String[] LYING = {"in a", "begins a", "ends a"};

    private final Check c = new Check();

    public static void main(String[] args) {
        LockEdgesTest t = new LockEdgesTest();
        t.rowsOfSixty();
        t.nearAsItIs();
        t.nearOfEachLock();
        t.lyingInTheVoice();
        t.longerThanTheVoice();
        t.wornInEarnest();
        t.notesInEarnest();
        t.nightInEarnest();
        t.ownWearAlone();
        t.eachUnitForTheThief();
        t.wornAsKept();
        t.c.finish();
    }

    /** "both {or both}", "one {and one}", "unit {(+ | -) unit}": rows of as many as can be, each of which tells. */
    private void rowsOfSixty() {
        for (int at = 0; at < 60; at++) {
            row("0", " or ", at, "7", 1);
            row("7", " and ", at, "0", 0);
            row("1", " + ", at, "8", 67);
            row("1", " - ", at, "8", at == 0 ? -51 : -65);
        }
        row("0", " or ", 0, "0", 0);
        row("7", " and ", 0, "7", 1);
    }

    private void row(String unit, String joint, int at, String other, int due) {
        StringBuilder s = new StringBuilder("tune a of 1 1;lock l near 0 opens ");
        for (int i = 0; i < 60; i++) {
            s.append(i == 0 ? "" : joint).append(i == at ? other : unit);
        }
        TuneLocks x = Check.told(s + ";");
        c.due("asked of " + s, x.asked(0, 0, false), due);
        c.due("sung to " + s, x.sing(1, 1), due != 0 ? 1 : 0);
    }

    /** Three NOTES alike open it, too; to them a is off by 5. */
    private static TuneLocks worn(String e, int times, int off) {
        TuneLocks x = Check.told("tune a of 0 1 5 1;tune s of 0 1 " + (5 + off) + " 1;lock l near 2 opens " + e + " or notes = 3;");
        for (int i = 0; i < times; i++) {
            for (int note = 0; note < 3; note++) {
                x.sing(7, 1);
            }
            x.shut(0);
            x.silence();
        }
        return x;
    }

    /** "near: as told, and a third of worn (cut)": for in, begins and ends alike, in earnest and of a TUNE. */
    private void nearAsItIs() {
        for (String e : LYING) {
            for (int times = 0; times <= 7; times++) {
                int near = 2 + times / 3;
                opensOrNot(e + ", worn " + times + ", just near", worn(e, times, near), near, true);
                opensOrNot(e + ", worn " + times + ", one more", worn(e, times, near + 1), near + 1, false);
            }
        }
    }

    private void opensOrNot(String what, TuneLocks x, int off, boolean opens) {
        c.due(what + ": off", x.in(0, 1, 1), off);
        c.due(what + ": asked", x.asked(0, 1, false), opens ? 1 : 0);
        c.due(what + ": doors", x.doors(1, true), opens ? 1 : 0);
        c.due(what + ": the first note", x.sing(20, 3), 0);
        c.due(what + ": the second", x.sing(25 + off, 3), opens ? 1 : 0);
        // For the thief it was never worn: near is 2.
        x.watch(0, false, true);
        c.due(what + ": left", x.left(0), off <= 2 ? 3 : 1);
        c.due(what + ": next", x.next(2, 0), off <= 2 ? 2 : 1);
    }

    /** "near: as told": each LOCK has its own. */
    private void nearOfEachLock() {
        StringBuilder s = new StringBuilder("tune a of 0 1 5 1;tune s of 0 1 9 1;");
        for (int i = 0; i < 8; i++) {
            s.append("lock ").append((char) ('a' + i)).append(" near ").append(i).append(" opens ").append(LYING[i % 3]).append(';');
        }
        TuneLocks x = Check.told(s.toString());
        // Off by 4: those of near 4 and more.
        c.due("doors", x.doors(1, false), 0xf0);
        c.due("sung", x.song(1, 3), 0xf0);
        for (int i = 0; i < 8; i++) {
            c.due("least of " + i, x.least(i, false), 0);
            c.due("worn, lock " + i, x.lock(i, 1), i < 4 ? 0 : 1);
            c.due("near, lock " + i, x.lock(i, 2), i);
        }
    }

    /** "in", "begins", "ends" of "the VOICE's NOTES", as it goes on: doors are shut behind each NOTE. */
    private void lyingInTheVoice() {
        String locks = "lock i near 0 opens in a;lock b near 0 opens begins a;lock e near 0 opens ends a;";
        // Up 5 at first: it begins the song for good, and ends it once.
        sung(locks, new int[] {0, 5, 5, 5, 10, 10}, new int[] {0, 7, 3, 3, 7, 3});
        // Up 5 later: it never begins it.
        sung(locks, new int[] {0, 0, 5, 6, 11, 1}, new int[] {0, 0, 5, 1, 5, 1});
        sung(locks, new int[] {9, 8, 7, 6, 5, 4}, new int[] {0, 0, 0, 0, 0, 0});
        String near = "lock i near 1 opens in a;lock b near 2 opens begins a;lock e near 3 opens ends a;";
        // Up 8, 7, 6, 2, down 1: off by 3, 2, 1, 3, 6; e is worn by then, but not so near.
        sung(near, new int[] {0, 8, 15, 21, 23, 22}, new int[] {0, 4, 4, 5, 5, 1});
        sung(near, new int[] {0, 7, 15, 21, 23, 22}, new int[] {0, 6, 6, 7, 7, 3});
        // Up 1: off by 4, as near as e is since it opened four times.
        sung(near, new int[] {0, 8, 15, 21, 23, 24}, new int[] {0, 4, 4, 5, 5, 5});
    }

    private void sung(String locks, int[] highs, int[] due) {
        TuneLocks x = Check.told("tune a of 30 2 35 2;" + locks);
        for (int i = 0; i < highs.length; i++) {
            c.due("note " + i + " of " + locks, x.sing(highs[i], 9), due[i]);
            for (int l = 0; l < 3; l++) {
                c.due("shut", x.shut(l), (due[i] >> l & 1) != 0);
            }
        }
    }

    /** "none, if the TUNE is longer": of a VOICE of fewer NOTES it is 0, however near. */
    private void longerThanTheVoice() {
        for (String e : LYING) {
            TuneLocks x = Check.told("tune a of" + " 1 1".repeat(12) + ";lock l near 20 opens " + e + ";lock m near 20 opens not " + e + ";");
            for (int i = 1; i <= 12; i++) {
                c.due(e + ", note " + i, x.sing(1, 1), i == 12 ? 1 : 2);
                x.shut(1);
            }
        }
    }

    /** "worn: how often the LOCK opened in earnest", asked in earnest as well. */
    private void wornInEarnest() {
        TuneLocks x = Check.told("tune a of 1 1;lock k near 0 opens worn < 2;lock l near 0 opens worn;lock m near 0 opens worn = 0 or notes = 3;");
        int[] due = {5, 1, 4, 0, 0};
        for (int i = 0; i < due.length; i++) {
            c.due("note " + i, x.sing(i, 1), due[i]);
            x.shut(0);
            x.shut(2);
        }
        c.due("k opened", x.lock(0, 1), 2);
        c.due("l opened", x.lock(1, 1), 0);
        c.due("m opened", x.lock(2, 1), 2);
        c.due("asked of k", x.asked(0, 0, false), 0);
        c.due("asked of l", x.asked(1, 0, false), 0);
        c.due("asked of m", x.asked(2, 0, false), 0);
        c.due("least of k", x.least(0, false), NONE);
        c.due("silence wears nothing off", x.silence(), 5);
        c.due("k", x.sing(1, 1), 0);
        c.due("m", x.sing(1, 1) + x.sing(1, 1), 4);
    }

    /** "notes: how many it has": the VOICE, from one NOTE to forty. */
    private void notesInEarnest() {
        for (int n = 1; n <= 40; n += 3) {
            TuneLocks x = Check.told("lock l near 0 opens notes = " + n + ";lock m near 0 opens notes > " + n + ";");
            for (int i = 1; i <= 40; i++) {
                c.due("note " + i + " of " + n, x.sing(i, 1), i == n ? 1 : i == n + 1 ? 2 : 0);
            }
        }
    }

    /** "night: 1 at night": as it is when the NOTE is sung. */
    private void nightInEarnest() {
        TuneLocks x = Check.told("tune a of 1 1 2 1;lock k near 0 opens night;lock l near 0 opens not night;lock m near 0 opens night + notes = 3;");
        c.due("by day", x.sing(1, 1), 2);
        x.night(true);
        c.due("at night", x.sing(1, 1), 1 | 4);
        x.shut(0);
        x.shut(1);
        x.shut(2);
        x.night(false);
        c.due("by day again", x.song(0, 0), 2 | 4);
        x.night(true);
        c.due("at night again", x.song(0, 0), 1);
    }

    /** A LOCK asks how often it opened itself; another's wear is nothing to it. */
    private void ownWearAlone() {
        StringBuilder s = new StringBuilder("tune a of 0 1 5 1;tune s of 0 1 6 1;");
        for (int i = 0; i < 8; i++) {
            s.append("lock ").append((char) ('a' + i)).append(" near 0 opens notes = 1 and worn < ").append(i).append(" or in a;");
        }
        TuneLocks x = Check.told(s.toString());
        for (int round = 0; round < 8; round++) {
            int due = 0;
            for (int i = 0; i < 8; i++) {
                due |= round < i ? 1 << i : 0;
            }
            c.due("round " + round, x.sing(3, 1), due);
            for (int i = 0; i < 8; i++) {
                x.shut(i);
            }
            x.silence();
        }
        for (int i = 0; i < 8; i++) {
            c.due("worn, lock " + i, x.lock(i, 1), i);
            c.due("near, lock " + i, x.lock(i, 2), i / 3);
        }
        // s is off by 1: those that opened three times are near enough.
        c.due("doors", x.doors(1, false), 0xf8);
        c.due("in earnest", x.sing(0, 1) | x.sing(6, 1), 0xf8);
    }

    /** "a LOCK, as it is told (never worn), OPENS at night, or by day, or not": each unit, in left and in next. */
    private void eachUnitForTheThief() {
        String tunes = "tune a of 0 1 5 1;tune b of 0 1 5 1 6 1;tune d of 0 1 1 1 6 1;tune e of 0 1;";
        thief(tunes, "in a", 7, 7);
        thief(tunes, "begins a", 3, 3);
        thief(tunes, "ends a", 5, 5);
        thief(tunes, "night", 0, 15);
        thief(tunes, "not night and in a", 7, 0);
        thief(tunes, "notes = 3", 6, 6);
        thief(tunes, "notes + night = 3", 6, 1);
        thief(tunes, "worn", 0, 0);
        thief(tunes, "worn = 0", 15, 15);
        thief(tunes, "0", 0, 0);
        thief(tunes, "0 - 1", 15, 15);
    }

    private void thief(String tunes, String e, int byDay, int atNight) {
        boolean[] sides = {false, true};
        for (boolean night : sides) {
            int opening = night ? atNight : byDay;
            TuneLocks x = Check.told(tunes + "lock l near 0 opens " + e + ";");
            int best = Math.min(greater(byDay), greater(atNight));
            c.due("next by " + e, x.next(1, 0), greater(byDay) == best ? 0 : 1);
            c.due("next by " + e, x.next(2, 0), best);
            x.watch(0, night, true);
            c.due("it opened: " + e, x.left(0), opening);
            x.untell(0);
            x.watch(0, night, false);
            c.due("it did not open: " + e, x.left(0), 15 & ~opening);
        }
    }

    private static int greater(int opening) {
        return Math.max(Integer.bitCount(opening), 4 - Integer.bitCount(opening));
    }

    /** "how often each opened are kept": behind back() a LOCK asks for that. */
    private void wornAsKept() {
        for (String e : LYING) {
            TuneLocks x = worn(e, 3, 3);
            x.image(0);
            TuneLocks y = worn(e, 0, 3);
            y.image(0);
            for (int i = 0; i < 3; i++) {
                y.song(0, 0);
                y.shut(0);
            }
            c.due("near enough", y.asked(0, 1, false), 1);
            y.back(0);
            c.due("as it was kept", y.asked(0, 1, false), 0);
            c.due("as it was kept", y.doors(1, false), 0);
            c.due("as it was kept", y.lock(0, 2), 2);
            c.due("in earnest", y.song(1, 0), 0);
            for (int i = 0; i < 3; i++) {
                x.song(0, 0);
                x.shut(0);
            }
            c.due("near enough for more", x.lock(0, 2), 4);
            x.back(0);
            c.due("as it was kept", x.lock(0, 2), 3);
            c.due("in earnest", x.song(1, 0), 1);
        }
    }
}
