/** "==== 4" with promises 1 to 5 and 18 to 32, and "What it is", sentence by sentence, on both sides of each boundary. */
public final class EarnestEdgesTest {
    private static final int NONE = TuneLocks.NONE;
    private static final int BLANKS = 0x20202020;
    private static final int[] FAR = {Integer.MIN_VALUE, Integer.MIN_VALUE + 1, -1000000, -100, -2, -1, 100, 1000000,
        Integer.MAX_VALUE - 1, Integer.MAX_VALUE};

    private final Check c = new Check();

    public static void main(String[] args) {
        EarnestEdgesTest t = new EarnestEdgesTest();
        t.newObject();
        t.twentyBytes();
        t.firstBytes();
        t.townIsTold();
        t.latestTown();
        t.notesThatCanBe();
        t.voiceOfForty();
        t.songsToForty();
        t.songsThatCanBe();
        t.noteByNote();
        t.shutAndOpen();
        t.silences();
        t.dayAndNight();
        t.ofALock();
        t.heardInTheVoice();
        t.thirtyWatches();
        t.untold();
        t.knownAtK();
        t.neverWorn();
        t.timeGoesOn();
        t.whoIsLeft();
        t.whatIsNext();
        t.boxes();
        t.goneOnFrom();
        t.heardAsKept();
        t.aboutAll();
        t.lastCalls();
        t.c.finish();
    }

    private static String notes(int n) {
        return " 1 1".repeat(n);
    }

    // ---- the TAPE and the TOWN

    /** "An empty TOWN"; "(empty at first)"; "no NOTES at first), day, and doors that are shut"; "a TIME (0 at first". */
    private void newObject() {
        TuneLocks x = new TuneLocks();
        for (int what = 0; what < 8; what++) {
            c.due("about " + what, x.about(what), 0);
        }
        c.due("fault", x.fault(0), 0);
        c.due("its place", x.fault(1), NONE);
        c.due("tune 0", x.notes(0), NONE);
        c.due("lock 0", x.lock(0, 0), NONE);
        c.due("left", x.left(0), 0);
        c.due("boxes", x.back(0) + x.back(1) + x.back(2), 3 * NONE);
        c.due("a voice without a town", x.sing(0, 1), 0);
        c.due("one note", x.about(2), 1);
        c.due("an image of it", x.image(2), 1);
    }

    /** "Twenty bytes come .., of each number the highest first"; "NONE, and nothing comes, if there would be more than 1,700". */
    private void twentyBytes() {
        TuneLocks x = new TuneLocks();
        // "tune" " z o" "f 1 " "1;lo" "ck b"; then " nea" "r 9 " "open" "s 1;" and four bytes that must be there.
        c.due("20", x.feed(0x74756e65, 0x207a206f, 0x66203120, 0x313b6c6f, 0x636b2062), 20);
        c.due("40", x.feed(0x206e6561, 0x72203920, 0x6f70656e, 0x7320313b, 0xff000a20), 40);
        c.due("a byte of 255", x.town(), NONE);
        c.due("its place", x.fault(1), 36);
        c.due("end(36)", x.end(36), 36);
        c.due("town", x.town(), 1);
        c.due("near 9", x.lock(0, 2), 9);
        c.due("empty then", x.about(6), 0);
        for (int i = 1; i <= 84; i++) {
            c.due("feed", x.feed(BLANKS, BLANKS, BLANKS, BLANKS, BLANKS), i * 20);
        }
        c.due("end(1679)", x.end(1679), 1679);
        c.due("1,699", x.feed(BLANKS, BLANKS, BLANKS, BLANKS, BLANKS), 1699);
        c.due("by 19 more than there can be", x.feed(-1, -1, -1, -1, -1), NONE);
        c.due("1,699 still", x.about(6), 1699);
        c.due("end(1681)", x.end(1681), 1681);
        c.due("by one more", x.feed(-1, -1, -1, -1, -1), NONE);
        c.due("1,681 still", x.about(6), 1681);
        c.due("end(1680)", x.end(1680), 1680);
        c.due("1,700", x.feed(BLANKS, BLANKS, BLANKS, BLANKS, BLANKS), 1700);
        c.due("by 20 more", x.feed(-1, -1, -1, -1, -1), NONE);
        c.due("nothing came", x.town(), 0);
    }

    /** "The TAPE has its first n bytes: n; NONE, doing nothing, if it has not so many, or n is below 0". */
    private void firstBytes() {
        TuneLocks x = new TuneLocks();
        c.due("end(0) of none", x.end(0), 0);
        c.due("end(1) of none", x.end(1), NONE);
        Check.put(x, "sweet 1;tune a of 1 1;");
        c.due("as many as there are", x.end(22), 22);
        c.due("one more", x.end(23), NONE);
        c.due("below 0", x.end(-1), NONE);
        c.due("all there", x.about(6), 22);
        c.due("the first 8", x.end(8), 8);
        c.due("what was behind them is gone", x.end(9), NONE);
        Check.put(x, "tune b of 1 1 1 1;");
        c.due("what comes now is behind them", x.about(6), 26);
        c.due("town", x.town(), 0);
        c.due("notes", x.notes(0), 2);
        c.due("one tune", x.about(0), 1);
        for (int n : FAR) {
            c.due("end " + n, x.end(n), NONE);
        }
    }

    /** "(no VOICE, day, all shut, WATCHES are none, BOXES are empty then; the TIME stays): how many LOCKS". */
    private void townIsTold() {
        String text = "tune a of 1 1;lock l near 2 opens 1;lock m near 0 opens worn;";
        TuneLocks x = Check.told(text);
        x.song(0, 0);
        x.shut(0);
        x.sing(5, 5);
        x.night(true);
        x.watch(0, false, false);
        x.later(99);
        x.image(0);
        x.image(1);
        x.image(2);
        c.due("none left", x.left(99), 0);
        Check.put(x, text);
        c.due("the same town again", x.town(), 2);
        c.due("no voice", x.about(2), 0);
        c.due("heard", x.heard(0, 0), NONE);
        c.due("day", x.about(3), 0);
        c.due("shut", x.lock(0, 0), 0);
        c.due("never opened", x.lock(0, 1), 0);
        c.due("no watches", x.about(4), 0);
        c.due("left", x.left(99), 1);
        c.due("untell", x.untell(0), false);
        for (int box = 0; box < 3; box++) {
            c.due("box " + box, x.back(box), NONE);
        }
        c.due("the time stays", x.about(5), 99);
        c.due("a watch is the first again", x.watch(0, false, false), 0);
        c.due("told now, not at 0", x.left(98), 1);
        c.due("told now", x.left(99), 0);
        c.due("an empty text", x.town(), 0);
        c.due("no tunes", x.about(0), 0);
        c.due("no locks", x.about(1), 0);
        c.due("no units", x.about(7), 0);
        c.due("lock 0", x.lock(0, 0), NONE);
        c.due("left", x.left(99), 0);
    }

    /** "Of the latest town() what 0: its FAULT (0), 1: its place (NONE). NONE for another what". */
    private void latestTown() {
        TuneLocks x = new TuneLocks();
        Check.put(x, "  *");
        c.due("fault", x.town(), NONE);
        c.due("fault 1", x.fault(0), 1);
        c.due("at 2", x.fault(1), 2);
        x.end(2);
        c.due("none", x.town(), 0);
        c.due("no fault", x.fault(0), 0);
        c.due("no place", x.fault(1), NONE);
        Check.put(x, "tune a of 1 1;lock l near 0 opens in b;");
        c.due("fault", x.town(), NONE);
        c.due("fault 5", x.fault(0), 5);
        c.due("at 37", x.fault(1), 37);
        x.end(14);
        c.due("the tape alone is no town yet", x.fault(0), 5);
        c.due("what 2", x.fault(2), NONE);
        for (int what : FAR) {
            c.due("what " + what, x.fault(what), NONE);
        }
        Check.put(x, "");
        c.due("town", x.town(), 0);
        c.due("what -1 of none", x.fault(-1), NONE);
        Check.put(x, "*");
        c.due("at the very first byte", x.town(), NONE);
        c.due("place 0", x.fault(1), 0);
    }

    // ---- the VOICE

    /** "NONE, doing nothing, if one can't be": a NOTE's 0 .. 60 and 1 .. 9. */
    private void notesThatCanBe() {
        TuneLocks x = Check.told("tune a of 0 1 60 9;lock l near 0 opens notes;");
        int[][] cannot = {{-1, 1}, {61, 1}, {0, 0}, {0, 10}, {-1, 0}, {61, 10}, {0, -1}};
        for (int[] n : cannot) {
            c.due("sing(" + n[0] + ", " + n[1] + ")", x.sing(n[0], n[1]), NONE);
        }
        for (int far : FAR) {
            c.due("sing(" + far + ", 1)", x.sing(far, 1), NONE);
            c.due("sing(1, " + far + ")", x.sing(1, far), NONE);
        }
        c.due("nothing was sung", x.about(2), 0);
        c.due("nothing opened", x.lock(0, 1), 0);
        c.due("the lowest, the shortest", x.sing(0, 1), 1);
        c.due("the highest, the longest", x.sing(60, 9), 0);
        c.due("both are there", x.heard(0, 1), 0);
        c.due("the highest, the shortest", x.sing(60, 1), 0);
        c.due("the lowest, the longest", x.sing(0, 9), 0);
        c.due("four", x.about(2), 4);
    }

    /** "or the VOICE has 40". */
    private void voiceOfForty() {
        TuneLocks x = Check.told("tune a of 0 1 7 1;tune b of" + notes(12) + ";lock l near 0 opens notes = 40;lock m near 0 opens night;");
        for (int i = 1; i < 40; i++) {
            c.due("note " + i, x.sing(1, 1), 0);
        }
        c.due("the 40th", x.sing(8, 1), 1);
        c.due("40", x.about(2), 40);
        c.due("it is heard at the last place", x.heard(0, 0), 38);
        c.due("night", x.night(true), true);
        c.due("a 41st", x.sing(1, 1), NONE);
        c.due("40 still", x.about(2), 40);
        c.due("nothing opened by it", x.lock(1, 0), 0);
        c.due("heard still", x.heard(0, 0), 38);
        c.due("silence", x.silence(), 40);
        c.due("the first of others", x.sing(1, 1), 2);
    }

    /** "or there would be more than 40": of a TUNE all is sung, or nothing. */
    private void songsToForty() {
        TuneLocks x = Check.told("tune a of" + notes(12) + ";tune b of 1 1;tune c of 1 1 2 1;lock l near 0 opens in c;");
        c.due("12", x.song(0, 0), 0);
        c.due("24", x.song(0, 0), 0);
        c.due("36", x.song(0, 0), 0);
        c.due("48", x.song(0, 0), NONE);
        c.due("37", x.song(1, 0), 0);
        c.due("38", x.song(1, 0), 0);
        c.due("39", x.song(1, 0), 0);
        c.due("41", x.song(2, 0), NONE);
        c.due("39 still", x.about(2), 39);
        c.due("nothing opened", x.lock(0, 0), 0);
        c.due("40", x.song(1, 1), 1);
        c.due("41", x.song(1, 0), NONE);
        c.due("40 still", x.about(2), 40);
        TuneLocks y = Check.told("tune a of" + notes(12) + ";tune b of 1 1 1 1 1 1 1 1;");
        y.song(0, 0);
        y.song(0, 0);
        y.song(1, 0);
        c.due("28 and 12", y.song(0, 0), 0);
        c.due("40", y.about(2), 40);
        TuneLocks z = Check.told("tune a of" + notes(12) + ";tune b of 1 1 1 1 1 1 1 1 1 1;");
        z.song(0, 0);
        z.song(0, 0);
        z.song(1, 0);
        c.due("29 and 12", z.song(0, 0), NONE);
        c.due("29", z.about(2), 29);
    }

    /** "so much higher (-60 .. 60)"; "if one can't be (a NOTE not 0 .. 60)". */
    private void songsThatCanBe() {
        TuneLocks x = Check.told("tune low of 0 1;tune high of 60 1;tune both of 0 1 60 1;tune late of 10 1 10 1 20 1;"
                + "tune early of 20 1 10 1 10 1;lock l near 0 opens notes;");
        c.due("0, 1 lower", x.song(0, -1), NONE);
        c.due("60, 1 higher", x.song(1, 1), NONE);
        c.due("0 and 60, 1 higher", x.song(2, 1), NONE);
        c.due("0 and 60, 1 lower", x.song(2, -1), NONE);
        c.due("20 at last, 41 higher", x.song(3, 41), NONE);
        c.due("20 at first, 41 higher", x.song(4, 41), NONE);
        c.due("10, 11 lower", x.song(3, -11), NONE);
        c.due("0, 61 higher", x.song(0, 61), NONE);
        c.due("60, 61 lower", x.song(1, -61), NONE);
        for (int far : FAR) {
            if (far != -1 && far != -2) {
                c.due("higher by " + far, x.song(1, far), NONE);
            }
            c.due("tune " + far, x.song(far, 0), NONE);
        }
        c.due("tune 5", x.song(5, 0), NONE);
        c.due("nothing was sung", x.about(2), 0);
        c.due("nothing opened", x.lock(0, 1), 0);
        c.due("0, 60 higher", x.song(0, 60), 1);
        c.due("60, 60 lower", x.song(1, -60), 0);
        c.due("0 and 60", x.song(2, 0), 0);
        c.due("20 at last, 40 higher", x.song(3, 40), 0);
        c.due("10, 10 lower", x.song(4, -10), 0);
        c.due("as it was sung", x.about(2), 10);
        // It is 60, 0, 0, 60, 50, ..: both is off 0 at 2 alone.
        c.due("as high as it was sung", x.heard(2, 0), 2);
        c.due("as high as it was sung", x.heard(2, 1), 0);
    }

    /** "NOTE by NOTE: LOCKS that it opens, as bits". */
    private void noteByNote() {
        TuneLocks x = Check.told("tune a of 1 1 2 1 3 1;lock j near 0 opens notes = 1;lock k near 0 opens notes = 2;"
                + "lock l near 0 opens notes = 3;lock m near 0 opens notes = 4;lock n near 0 opens notes > 0;");
        c.due("on the way", x.song(0, 0), 1 | 2 | 4 | 16);
        for (int l = 0; l < 5; l++) {
            c.due("once each", x.lock(l, 1), l == 3 ? 0 : 1);
        }
        c.due("the 4th", x.song(0, 0), 8);
        c.due("none is shut", x.song(0, 0), 0);
    }

    /** "each LOCK that is shut and OPENS .. is open then, and has opened once more"; "false if it is so already, or there is none such". */
    private void shutAndOpen() {
        TuneLocks x = Check.told("lock l near 0 opens 1;lock m near 0 opens night;");
        c.due("shut at first", x.shut(0), false);
        c.due("opens", x.sing(1, 1), 1);
        c.due("is open, not opened", x.sing(1, 1), 0);
        c.due("once", x.lock(0, 1), 1);
        c.due("shut", x.shut(0), true);
        c.due("shut already", x.shut(0), false);
        c.due("shut", x.lock(0, 0), 0);
        c.due("still once", x.lock(0, 1), 1);
        c.due("it opens by the next note alone", x.lock(0, 0), 0);
        c.due("opens", x.sing(1, 1), 1);
        c.due("twice", x.lock(0, 1), 2);
        c.due("the other one is shut", x.shut(1), false);
        c.due("lock 2", x.shut(2), false);
        c.due("lock 32", x.shut(32), false);
        for (int far : FAR) {
            c.due("lock " + far, x.shut(far), false);
        }
        c.due("open still", x.lock(0, 0), 1);
        StringBuilder s = new StringBuilder();
        for (int i = 0; i < 8; i++) {
            s.append("lock ").append((char) ('a' + i)).append(" near 0 opens 1;");
        }
        TuneLocks y = Check.told(s.toString());
        c.due("all eight", y.sing(1, 1), 255);
        c.due("the eighth", y.shut(7), true);
        c.due("the ninth", y.shut(8), false);
        c.due("the eighth again", y.sing(1, 1), 128);
    }

    /** "SILENCE: the VOICE has none"; "how many NOTES there were". */
    private void silences() {
        TuneLocks x = Check.told("tune a of 1 1 2 1;lock l near 0 opens in a;");
        c.due("of none", x.silence(), 0);
        x.sing(1, 1);
        c.due("of one", x.silence(), 1);
        c.due("of none again", x.silence(), 0);
        c.due("what was sung ahead of it doesn't count", x.sing(2, 1), 0);
        c.due("but what comes", x.sing(3, 1), 1);
        c.due("of two", x.silence(), 2);
        c.due("doors stay open", x.lock(0, 0), 1);
        c.due("not heard any more", x.heard(0, 0), NONE);
    }

    /** "It is night, or day: whether it was the other one". */
    private void dayAndNight() {
        TuneLocks x = Check.told("lock l near 0 opens night;");
        c.due("day already", x.night(false), false);
        c.due("night", x.night(true), true);
        c.due("night already", x.night(true), false);
        c.due("night", x.about(3), 1);
        c.due("no door opens by it", x.lock(0, 0), 0);
        c.due("but by a note", x.sing(0, 1), 1);
        c.due("day", x.night(false), true);
        c.due("day", x.about(3), 0);
        c.due("no door shuts by it", x.lock(0, 0), 1);
    }

    /** "what 0: 1 if open, else 0, 1: worn, 2: near as it is; NONE if there is none such, or for another what". */
    private void ofALock() {
        TuneLocks x = Check.told("lock l near 7 opens 1;lock m near 20 opens 0;");
        c.due("the last", x.lock(1, 2), 20);
        c.due("what 3", x.lock(0, 3), NONE);
        c.due("lock 2", x.lock(2, 0), NONE);
        for (int far : FAR) {
            c.due("what " + far, x.lock(0, far), NONE);
            c.due("lock " + far, x.lock(far, 0), NONE);
        }
        for (int worn = 1; worn <= 40; worn++) {
            x.sing(1, 1);
            x.shut(0);
            c.due("worn", x.lock(0, 1), worn);
            c.due("near, worn " + worn, x.lock(0, 2), Math.min(20, 7 + worn / 3));
        }
        c.due("20 at most", x.lock(0, 2), 20);
        c.due("the other one", x.lock(1, 1), 0);
    }

    /** "IN of a TUNE in the VOICE's NOTES what 0, 1, 2: as above". */
    private void heardInTheVoice() {
        TuneLocks x = Check.told("tune a of 0 1 2 1 4 1;tune one of 9 9;");
        for (int what = 0; what < 3; what++) {
            c.due("a voice of no notes", x.heard(0, what), NONE);
            c.due("a voice of no notes", x.heard(1, what), NONE);
        }
        x.sing(10, 2);
        c.due("one note", x.heard(1, 0), 0);
        c.due("one note, off", x.heard(1, 1), 0);
        c.due("one note, first off", x.heard(1, 2), NONE);
        c.due("longer", x.heard(0, 0), NONE);
        x.sing(12, 2);
        c.due("longer by one", x.heard(0, 1), NONE);
        x.sing(13, 2);
        c.due("as long", x.heard(0, 0), 0);
        c.due("as long", x.heard(0, 1), 1);
        c.due("as long", x.heard(0, 2), 2);
        x.sing(14, 2);
        c.due("off by more at the next place", x.heard(0, 0), 0);
        x.sing(16, 2);
        c.due("off alike: the first", x.heard(0, 0), 0);
        x.sing(18, 2);
        c.due("off 0", x.heard(0, 0), 3);
        c.due("off 0", x.heard(0, 1), 0);
        c.due("off 0", x.heard(0, 2), NONE);
        c.due("what 3", x.heard(0, 3), NONE);
        c.due("tune 2", x.heard(2, 0), NONE);
        for (int far : FAR) {
            c.due("what " + far, x.heard(0, far), NONE);
            c.due("tune " + far, x.heard(far, 0), NONE);
        }
    }

    // ---- the thief

    /** "WATCHES, 30 at most"; "its number; NONE, doing nothing, if there is no such LOCK, or there are 30". */
    private void thirtyWatches() {
        TuneLocks x = Check.told("tune a of 1 1;tune b of 1 1 1 1;lock l near 0 opens notes = 1;");
        c.due("lock 1", x.watch(1, false, true), NONE);
        for (int far : FAR) {
            c.due("lock " + far, x.watch(far, true, false), NONE);
        }
        c.due("none", x.about(4), 0);
        for (int i = 0; i < 30; i++) {
            c.due("watch", x.watch(0, i % 2 == 0, true), i);
            c.due("so many", x.about(4), i + 1);
        }
        c.due("left", x.left(0), 1);
        c.due("a 31st", x.watch(0, false, false), NONE);
        c.due("30 still", x.about(4), 30);
        c.due("left still", x.left(0), 1);
        c.due("there is no 31st", x.untell(30), false);
        c.due("the 30th", x.untell(29), true);
        c.due("untold ones are watches still", x.about(4), 30);
        c.due("so there are 30", x.watch(0, false, false), NONE);
    }

    /** "It is UNTOLD: true; false if it is so already, or there is none such". */
    private void untold() {
        TuneLocks x = Check.told("tune a of 1 1;lock l near 0 opens 1;");
        c.due("the first of none", x.untell(0), false);
        x.watch(0, false, false);
        x.watch(0, true, false);
        c.due("left", x.left(0), 0);
        c.due("watch 2", x.untell(2), false);
        for (int far : FAR) {
            c.due("watch " + far, x.untell(far), false);
        }
        c.due("left still", x.left(0), 0);
        c.due("the second", x.untell(1), true);
        c.due("one is left that counts", x.left(0), 0);
        c.due("the second again", x.untell(1), false);
        c.due("the first", x.untell(0), true);
        c.due("left", x.left(0), 1);
        x.later(5);
        c.due("the first, later", x.untell(0), false);
        c.due("it stays untold at 0", x.left(0), 1);
    }

    /** "As known at k those count that were TOLD at k or before, not UNTOLD at k or before". */
    private void knownAtK() {
        TuneLocks x = Check.told("tune a of 1 1;tune b of 1 1 1 1;lock l near 0 opens notes = 1;");
        x.later(10);
        x.watch(0, false, true);
        x.later(10);
        x.untell(0);
        x.later(10);
        x.watch(0, false, false);
        int[][] known = {{Integer.MIN_VALUE, 3}, {-1, 3}, {0, 3}, {9, 3}, {10, 1}, {11, 1}, {19, 1}, {20, 3}, {21, 3}, {29, 3},
            {30, 2}, {31, 2}, {100000, 2}, {100001, 2}, {Integer.MAX_VALUE, 2}};
        for (int[] k : known) {
            c.due("left at " + k[0], x.left(k[0]), k[1]);
            c.due("next at " + k[0], x.next(2, k[0]), 1);
        }
        // Untold at the time it was told: it never counts.
        TuneLocks y = Check.told("tune a of 1 1;lock l near 0 opens 1;");
        y.later(5);
        y.watch(0, false, false);
        c.due("told", y.left(5), 0);
        c.due("not told yet", y.left(4), 1);
        y.untell(0);
        c.due("untold at once", y.left(5), 1);
        c.due("later", y.left(6), 1);
        c.due("before", y.left(4), 1);
    }

    /** "by which a LOCK, as it is told (never worn), OPENS at night, or by day, or not". */
    private void neverWorn() {
        TuneLocks x = Check.told("tune a of 0 1 5 1;tune b of 0 1 6 1;lock l near 0 opens in a or notes < 2;lock m near 0 opens worn;"
                + "lock n near 0 opens night and in b;");
        x.watch(0, false, true);
        for (int i = 0; i < 3; i++) {
            c.due("a alone", x.left(0), 1);
            c.due("m can't part them", x.next(0, -1), 0);
            x.sing(0, 1);
            x.shut(0);
            x.silence();
        }
        c.due("near enough in earnest", x.doors(1, false), 1);
        c.due("not for the thief", x.left(0), 1);
        c.due("not for what is next", x.next(2, -1), 1);
        x.untell(0);
        x.watch(1, false, false);
        c.due("worn is 0 for the thief", x.left(0), 3);
        x.watch(1, true, true);
        c.due("worn is 0 for the thief", x.left(0), 0);
        x.untell(2);
        x.watch(2, true, true);
        c.due("at night", x.left(0), 2);
        c.due("whatever it is in earnest", x.night(true), true);
        c.due("at night still", x.left(0), 2);
        x.watch(2, false, false);
        c.due("by day it does not open", x.left(0), 2);
        x.watch(2, false, true);
        c.due("none by which it does", x.left(0), 0);
    }

    /** "So much later (0 .. 1000): the TIME; NONE, doing nothing, for another number, or if it would be above 100,000". */
    private void timeGoesOn() {
        TuneLocks x = new TuneLocks();
        c.due("0", x.later(0), 0);
        c.due("1", x.later(1), 1);
        c.due("1000", x.later(1000), 1001);
        c.due("1001", x.later(1001), NONE);
        c.due("-1", x.later(-1), NONE);
        c.due("the time", x.about(5), 1001);
        c.due("998", x.later(998), 1999);
        for (int i = 2; i < 100; i++) {
            c.due("1000", x.later(1000), i * 1000 + 999);
        }
        for (int far : FAR) {
            if (far != 100) {
                c.due("later " + far, x.later(far), NONE);
            }
        }
        c.due("99,999", x.about(5), 99999);
        c.due("to 100,001", x.later(2), NONE);
        c.due("to 100,999", x.later(1000), NONE);
        c.due("99,999 still", x.later(0), 99999);
        c.due("to 100,000", x.later(1), 100000);
        c.due("to 100,001", x.later(1), NONE);
        c.due("100,000 still", x.later(0), 100000);
    }

    /** "LEFT: TUNES by which all that count are so". */
    private void whoIsLeft() {
        StringBuilder s = new StringBuilder();
        for (int i = 0; i < 14; i++) {
            s.append("tune ").append((char) ('a' + i)).append(" of 0 1 ").append(i).append(" 1;");
        }
        TuneLocks x = Check.told(s + "lock l near 0 opens in n;lock m near 1 opens in n;lock n near 0 opens in a;");
        c.due("all, if nothing counts", x.left(0), (1 << 14) - 1);
        x.watch(0, false, false);
        c.due("all but the last", x.left(0), (1 << 13) - 1);
        x.watch(1, true, true);
        c.due("both", x.left(0), 1 << 12);
        x.watch(2, false, true);
        c.due("none", x.left(0), 0);
        c.due("no tunes", Check.told("lock l near 0 opens 1;").left(0), 0);
    }

    /** "the greater number .. is least; of like ones the first LOCK, day ahead of night"; "NONE without LOCKS, if none is LEFT, or for another what". */
    private void whatIsNext() {
        String tunes = "tune a of 1 1;tune b" + " of" + notes(2) + ";tune c of" + notes(3) + ";tune d of" + notes(4) + ";";
        nextIs(tunes + "lock l near 0 opens 1;", 0, 0, 4);
        nextIs(tunes + "lock l near 0 opens night and notes = 1;", 0, 1, 3);
        nextIs(tunes + "lock l near 0 opens notes = 1;lock m near 0 opens notes < 3;", 1, 0, 2);
        nextIs(tunes + "lock l near 0 opens notes < 3;lock m near 0 opens notes > 2;", 0, 0, 2);
        // A night of the first lock is ahead of a day of the second.
        nextIs(tunes + "lock l near 0 opens night and notes < 3;lock m near 0 opens notes < 3;", 0, 1, 2);
        nextIs(tunes + "lock l near 0 opens night;lock m near 0 opens notes = 2 and night;lock n near 0 opens notes = 2;", 1, 1, 3);
        nextIs(tunes + "lock l near 0 opens 0" + "+0".repeat(19) + " or notes = 1;", 0, 0, 3);
        nextIs(tunes, NONE, NONE, NONE);
        nextIs("lock l near 0 opens 1;", NONE, NONE, NONE);
        nextIs("", NONE, NONE, NONE);
        TuneLocks x = Check.told(tunes + "lock l near 0 opens notes < 3;");
        c.due("what 3", x.next(3, 0), NONE);
        for (int far : FAR) {
            c.due("what " + far, x.next(far, 0), NONE);
        }
        x.watch(0, false, true);
        c.due("two are left, all alike", x.next(2, 0), 2);
        x.later(1);
        x.watch(0, true, false);
        for (int what = 0; what < 3; what++) {
            c.due("none is left", x.next(what, 1), NONE);
        }
        c.due("as known ahead", x.next(2, 0), 2);
        c.due("as known at first", x.next(2, -1), 2);
        // Locks of towns told before are none of this one.
        TuneLocks y = Check.told(tunes + "lock l near 0 opens 1;lock m near 0 opens notes < 3;");
        c.due("two locks", y.next(0, 0), 1);
        Check.put(y, tunes + "lock l near 0 opens notes < 4;");
        y.town();
        c.due("one lock", y.next(2, 0), 3);
        Check.put(y, tunes + "lock l near 0 opens 1;");
        y.town();
        c.due("one lock again", y.next(0, 0), 0);
        c.due("one lock again", y.next(2, 0), 4);
    }

    private void nextIs(String text, int lock, int night, int number) {
        TuneLocks x = Check.told(text);
        c.due("next of " + text, x.next(0, 0), lock);
        c.due("next, night, of " + text, x.next(1, 0), night);
        c.due("next, number, of " + text, x.next(2, 0), number);
    }

    // ---- BOXES, about, the last calls

    /** "a BOX 0 .. 2: NOTES of the VOICE; NONE if there is none such"; "NONE, doing nothing, if nothing was". */
    private void boxes() {
        TuneLocks x = Check.told("tune a of 1 1;lock l near 0 opens 1;");
        for (int box = 0; box < 3; box++) {
            c.due("nothing was kept", x.back(box), NONE);
            x.sing(box, 1);
            c.due("image", x.image(box), box + 1);
        }
        c.due("box 3", x.image(3), NONE);
        c.due("box 3", x.back(3), NONE);
        for (int far : FAR) {
            c.due("image " + far, x.image(far), NONE);
            c.due("back " + far, x.back(far), NONE);
        }
        c.due("three notes", x.about(2), 3);
        for (int box = 0; box < 3; box++) {
            c.due("each has its own", x.back(box), box + 1);
            c.due("each has its own", x.about(2), box + 1);
        }
        x.silence();
        c.due("an image of no notes", x.image(1), 0);
        x.sing(1, 1);
        c.due("is one", x.back(1), 0);
        c.due("no notes", x.about(2), 0);
        for (int i = 0; i < 40; i++) {
            x.sing(i, 1);
        }
        c.due("an image of 40", x.image(0), 40);
        x.silence();
        c.due("40 again", x.back(0), 40);
        c.due("and no more", x.sing(1, 1), NONE);
        Check.put(x, "*");
        c.due("a fault", x.town(), NONE);
        c.due("boxes stay", x.back(2), 3);
    }

    /** "The VOICE, night or day, which doors are open, how often each opened are kept"; "All is as it was kept". */
    private void goneOnFrom() {
        TuneLocks x = Check.told("tune a of 0 1 4 1;lock l near 0 opens in a or night;lock m near 0 opens notes > 2;");
        x.song(0, 3);
        c.due("image", x.image(0), 2);
        x.night(true);
        x.shut(0);
        c.due("gone on", x.sing(9, 9), 3);
        x.watch(0, true, true);
        x.later(8);
        x.image(1);
        c.due("back", x.back(0), 2);
        c.due("day", x.about(3), 0);
        c.due("open", x.lock(0, 0), 1);
        c.due("once", x.lock(0, 1), 1);
        c.due("shut", x.lock(1, 0), 0);
        c.due("never", x.lock(1, 1), 0);
        c.due("heard", x.heard(0, 1), 0);
        c.due("watches are not kept", x.about(4), 1);
        c.due("nor is the time", x.about(5), 8);
        c.due("gone on otherwise", x.sing(1, 1), 2);
        c.due("the image stays as it was", x.back(0), 2);
        c.due("shut again", x.lock(1, 0), 0);
        c.due("gone on once more", x.sing(1, 1), 2);
        c.due("once, not twice", x.lock(1, 1), 1);
        c.due("the other one", x.back(1), 3);
        c.due("night", x.about(3), 1);
        c.due("twice", x.lock(0, 1), 2);
        x.silence();
        x.sing(4, 1);
        c.due("kept over it", x.image(0), 1);
        c.due("back", x.back(1), 3);
        c.due("back", x.back(0), 1);
        // What is heard goes on from the notes that were kept: 4, then 8 is up 4.
        x.sing(8, 1);
        c.due("heard from the kept note on", x.heard(0, 1), 0);
    }

    /** "All is as it was kept": what is IN the VOICE is so, too, and goes on from there. */
    private void heardAsKept() {
        TuneLocks x = Check.told("tune a of 0 1 4 1;tune b of 0 1 4 1 8 1;lock l near 0 opens ends b;");
        x.song(0, 0);
        x.image(0);
        x.silence();
        x.image(1);
        x.sing(0, 1);
        x.sing(1, 1);
        x.sing(5, 2);
        c.due("off by pace", x.heard(0, 1), 1);
        c.due("at the second place", x.heard(0, 0), 1);
        c.due("back", x.back(0), 2);
        c.due("off by nothing", x.heard(0, 1), 0);
        c.due("at the first place", x.heard(0, 0), 0);
        c.due("longer", x.heard(1, 0), NONE);
        c.due("gone on", x.sing(8, 1), 1);
        c.due("b is there", x.heard(1, 1), 0);
        c.due("back to nothing sung", x.back(1), 0);
        c.due("nothing is heard", x.heard(0, 0), NONE);
        x.sing(9, 1);
        c.due("one note: longer", x.heard(0, 0), NONE);
        x.sing(1, 1);
        c.due("two notes", x.heard(0, 1), 12);
    }

    /** "What 0: .. 7: .. NONE for another what". */
    private void aboutAll() {
        TuneLocks x = Check.told("tune a of 1 1;tune b of 1 1;lock l near 0 opens (night);lock m near 0 opens 1;lock n near 0 opens 1;");
        for (int i = 0; i < 4; i++) {
            x.sing(1, 1);
        }
        x.night(true);
        for (int i = 0; i < 5; i++) {
            x.watch(0, true, true);
        }
        x.later(6);
        Check.put(x, "1234567");
        int[] due = {2, 3, 4, 1, 5, 6, 7, 4};
        for (int what = 0; what < 8; what++) {
            c.due("about " + what, x.about(what), due[what]);
        }
        c.due("about 8", x.about(8), NONE);
        for (int what : FAR) {
            c.due("about " + what, x.about(what), NONE);
        }
    }

    /** "An object is used for at most 512 calls after it has been made": the 512th is answered as any. */
    private void lastCalls() {
        TuneLocks x = new TuneLocks();
        x.feed(0x74756e65, 0x207a206f, 0x66203120, 0x313b6c6f, 0x636b2062);
        x.feed(0x206e6561, 0x72203020, 0x6f70656e, 0x7320313b, BLANKS);
        x.town();
        for (int i = 4; i < 512; i += 4) {
            c.due("opens", x.sing(i % 61, 1), 1);
            c.due("shut", x.shut(0), true);
            c.due("worn", x.lock(0, 1), i / 4);
            c.due("silence", x.silence(), 1);
        }
        c.due("the 512th", x.lock(0, 1), 127);
        TuneLocks y = new TuneLocks();
        for (int i = 1; i < 512; i++) {
            c.due("town", y.town(), 0);
        }
        c.due("the 512th", y.fault(0), 0);
    }
}
