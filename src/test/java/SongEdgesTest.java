/** "==== 2" and "==== 3" with promises 6 to 17, sentence by sentence, on both sides of each boundary. */
public final class SongEdgesTest {
    private static final int NONE = TuneLocks.NONE;
    private static final int GAP = TuneLocks.GAP;
    private static final int[] FAR = {Integer.MIN_VALUE, Integer.MIN_VALUE + 1, -1000000, -100, -2, -1, 100, 1000000,
        Integer.MAX_VALUE - 1, Integer.MAX_VALUE};

    private final Check c = new Check();

    public static void main(String[] args) {
        SongEdgesTest t = new SongEdgesTest();
        t.noSuchTuneOrLock();
        t.stepsOfATune();
        t.placesWithinTheSong();
        t.differencesOfSteps();
        t.outOfPace();
        t.leastOffFirstPlace();
        t.longerThanTheSong();
        t.firstOff();
        t.asManyAsCanBe();
        t.askedWithNearOrLess();
        t.beginsAndEnds();
        t.nightNotesWorn();
        t.thirdOfWorn();
        t.twentyAtMost();
        t.greatSums();
        t.notZero();
        t.nearOfTwoTunes();
        t.mostTunesLeastSet();
        t.upToSixTunes();
        t.leftOutOfAMaster();
        t.laidOverTheEnd();
        t.laidOverByEach();
        t.firstRow();
        t.laterByD();
        t.oneHigherThanTheOther();
        t.goodOfAll();
        t.deafForATone();
        t.deafOneByOne();
        t.deafAtEachPlace();
        t.fewestNotes();
        t.c.finish();
    }

    private static String notes(int n) {
        return " 1 1".repeat(n);
    }

    // ---- TUNES

    /** "NONE if there is none such", "GAP if one can't be": beside the last and beside the first number. */
    private void noSuchTuneOrLock() {
        TuneLocks x = Check.told("tune a of 1 1;tune b of 1 2 1 1;tune z of 1 1;lock a near 0 opens 1;lock z near 0 opens 1;");
        c.due("the last tune", x.notes(2), 1);
        c.due("the last lock", x.asked(1, 2, true), 1);
        for (int far : new int[] {3, 14, 32, 34}) {
            noTune(x, far);
        }
        for (int far : FAR) {
            noTune(x, far);
        }
        for (int far : new int[] {-1, 2, 8, 32, 33, Integer.MIN_VALUE, Integer.MAX_VALUE}) {
            c.due("asked, lock " + far, x.asked(far, 0, false), GAP);
            c.due("least, lock " + far, x.least(far, true), NONE);
        }
    }

    private void noTune(TuneLocks x, int far) {
        c.due("notes " + far, x.notes(far), NONE);
        c.due("step of " + far, x.step(far, 0), GAP);
        c.due("off of " + far, x.off(far, 0, 0), NONE);
        c.due("off at " + far, x.off(0, far, 0), NONE);
        c.due("in of " + far, x.in(far, 0, 1), NONE);
        c.due("in in " + far, x.in(0, far, 1), NONE);
        c.due("doors of " + far, x.doors(far, false), NONE);
        c.due("asked of " + far, x.asked(0, far, false), GAP);
        c.due("round of " + far, x.round(far, 1), NONE);
        c.due("good of " + far, x.good(far, 0), NONE);
        c.due("good of " + far, x.good(far, 1), NONE);
        c.due("deaf of " + far, x.deaf(far, 0, 0), NONE);
        c.due("deaf in " + far, x.deaf(0, far, 0), NONE);
    }

    /** "The STEP behind a NOTE .. (below 0: lower)"; "GAP if there is none such, or no next one". */
    private void stepsOfATune() {
        TuneLocks x = Check.told("tune one of 7 1;tune two of 0 1 60 1;tune all of 60 1 0 1" + notes(9) + " 0 1;");
        c.due("of one note", x.step(0, 0), GAP);
        c.due("up 60", x.step(1, 0), 60);
        c.due("behind the last of two", x.step(1, 1), GAP);
        c.due("down 60", x.step(2, 0), -60);
        c.due("up 1", x.step(2, 1), 1);
        c.due("alike", x.step(2, 2), 0);
        c.due("down 1, behind the 11th", x.step(2, 10), -1);
        c.due("behind the 12th", x.step(2, 11), GAP);
        c.due("behind a 13th", x.step(2, 12), GAP);
        for (int far : FAR) {
            c.due("step " + far, x.step(2, far), GAP);
        }
    }

    /** "(that of its first NOTE; all of its NOTES lie within the SONG)". */
    private void placesWithinTheSong() {
        TuneLocks x = Check.told("tune two of 10 1 12 1;tune song of 0 1 2 1 4 1 7 2;tune one of 3 3;tune all of" + notes(12) + ";");
        c.due("the first place", x.off(0, 1, 0), 0);
        c.due("ahead of the first", x.off(0, 1, -1), NONE);
        // The step is 3, not 2, and the second note is out of pace.
        c.due("the last place", x.off(0, 1, 2), 2);
        c.due("behind the last", x.off(0, 1, 3), NONE);
        c.due("one note at the last", x.off(2, 1, 3), 0);
        c.due("one note behind it", x.off(2, 1, 4), NONE);
        c.due("of itself", x.off(3, 3, 0), 0);
        c.due("of itself, one later", x.off(3, 3, 1), NONE);
        c.due("longer by one", x.off(1, 0, 0), NONE);
        c.due("one note in 12", x.off(2, 3, 11), 0);
        c.due("one note at 12", x.off(2, 3, 12), NONE);
        for (int far : FAR) {
            c.due("at " + far, x.off(0, 1, far), NONE);
            c.due("longer, at " + far, x.off(1, 0, far), NONE);
        }
    }

    /** "of all its STEPS the differences from those there together". */
    private void differencesOfSteps() {
        TuneLocks x = Check.told("tune zig of 0 1 60 1 0 1 60 1 0 1 60 1 0 1 60 1 0 1 60 1 0 1 60 1;"
                + "tune zag of 60 1 0 1 60 1 0 1 60 1 0 1 60 1 0 1 60 1 0 1 60 1 0 1;tune up of 0 1 1 1;tune down of 1 1 0 1;"
                + "tune zagged of 60 1 0 2 60 2 0 2 60 2 0 2 60 2 0 2 60 2 0 2 60 2 0 2;");
        c.due("the most there can be", x.off(0, 1, 0), 11 * 120);
        c.due("and all out of pace", x.off(0, 4, 0), 11 * 121);
        c.due("up against down", x.off(2, 3, 0), 2);
        c.due("down against up", x.off(3, 2, 0), 2);
        c.due("one apart", x.off(2, 0, 0), 59);
        c.due("one apart, the other way", x.off(2, 0, 1), 61);
    }

    /** "(whose length there * that of the TUNE's first NOTE is not the length of the SONG's NOTE at that place * its own)". */
    private void outOfPace() {
        TuneLocks x = Check.told("tune p of 0 2 0 4 0 6;tune q of 0 3 0 6 0 9;tune r of 0 3 0 6 0 8;tune s of 0 3 0 5 0 9;"
                + "tune t of 0 1 0 1 0 1;tune u of 0 9 0 9 0 9;tune v of 0 9 0 8 0 9;tune w of 0 1 0 9 0 1;tune o of 0 5;");
        c.due("2 4 6 in 3 6 9", x.off(0, 1, 0), 0);
        c.due("2 4 6 in 3 6 8", x.off(0, 2, 0), 1);
        c.due("2 4 6 in 3 5 9", x.off(0, 3, 0), 1);
        c.due("3 6 9 in 2 4 6", x.off(1, 0, 0), 0);
        c.due("1 1 1 in 9 9 9", x.off(4, 5, 0), 0);
        c.due("9 9 9 in 1 1 1", x.off(5, 4, 0), 0);
        c.due("9 9 9 in 9 8 9", x.off(5, 6, 0), 1);
        c.due("9 8 9 in 9 9 9", x.off(6, 5, 0), 1);
        c.due("9 9 9 in 1 9 1", x.off(5, 7, 0), 1);
        c.due("2 4 6 in 1 1 1", x.off(0, 4, 0), 2);
        // The first note is never out of pace, so a tune of one note is never off.
        c.due("one note", x.off(8, 7, 1), 0);
    }

    /** "IN: the place of least OFF; of like ones the first". */
    private void leastOffFirstPlace() {
        TuneLocks x = Check.told("tune a of 0 1 2 1;tune like of 5 1 8 1 11 1 14 1;tune last of 0 1 5 1 9 1 12 1;"
                + "tune mid of 0 1 5 1 7 1 9 1;tune one of 9 9;");
        c.due("like ones", x.in(0, 1, 0), 0);
        c.due("like ones", x.in(0, 1, 1), 1);
        // Off by 3, 2, 1.
        c.due("the last is least", x.in(0, 2, 0), 2);
        c.due("the last is least", x.in(0, 2, 1), 1);
        // Off by 3, 0, 0.
        c.due("of the two the first", x.in(0, 3, 0), 1);
        c.due("of the two the first", x.in(0, 3, 1), 0);
        c.due("one note: the first place", x.in(4, 3, 0), 0);
        c.due("itself", x.in(3, 3, 0), 0);
        c.due("what -1", x.in(0, 1, -1), NONE);
        c.due("what 2", x.in(0, 1, 2), 1);
        c.due("what 3", x.in(0, 1, 3), NONE);
        for (int far : FAR) {
            c.due("what " + far, x.in(0, 1, far), NONE);
        }
    }

    /** "none, if the TUNE is longer". */
    private void longerThanTheSong() {
        TuneLocks x = Check.told("tune twelve of" + notes(12) + ";tune eleven of" + notes(11) + ";tune other of 60 9" + notes(10) + " 0 1;");
        for (int what = 0; what < 3; what++) {
            c.due("12 in 11, " + what, x.in(0, 1, what), NONE);
        }
        c.due("11 in 12", x.in(1, 0, 0), 0);
        c.due("11 in 12", x.in(1, 0, 1), 0);
        c.due("as long: there it fits, however far off", x.in(0, 2, 0), 0);
        // Steps -59 and -1; all but the first are out of pace.
        c.due("as long", x.in(0, 2, 1), 60 + 11);
    }

    /** "the least NOTE of the TUNE (from 1 on) to which its STEP comes otherwise, or that is out of PACE; none of OFF 0". */
    private void firstOff() {
        TuneLocks x = Check.told("tune a of 0 1 0 1 0 1 0 1;tune same of 9 2 9 2 9 2 9 2;tune one of 0 1 1 1 1 1 1 1;"
                + "tune last of 0 1 0 1 0 1 1 1;tune pace of 0 1 0 2 0 1 0 1;tune slow of 0 1 0 1 0 1 0 2;"
                + "tune mixed of 0 1 0 1 0 2 1 1;tune first of 0 2 0 1 0 1 0 1;tune lone of 4 4;");
        c.due("none of off 0", x.in(0, 1, 2), NONE);
        c.due("a step to note 1", x.in(0, 2, 2), 1);
        c.due("a step to the last", x.in(0, 3, 2), 3);
        c.due("note 1 out of pace", x.in(0, 4, 2), 1);
        c.due("the last out of pace", x.in(0, 5, 2), 3);
        c.due("pace ahead of a step", x.in(0, 6, 2), 2);
        c.due("never 0", x.in(0, 7, 2), 1);
        c.due("of one note none", x.in(8, 6, 2), NONE);
        c.due("of itself none", x.in(6, 6, 2), NONE);
    }

    // ---- LOCKS

    /** "At most 14 TUNES .., 8 LOCKS": with as many as can be, each is asked, and no more. */
    private void asManyAsCanBe() {
        StringBuilder s = new StringBuilder();
        for (int i = 0; i < 14; i++) {
            s.append("tune ").append((char) ('a' + i)).append(" of").append(notes(i < 12 ? i + 1 : 12)).append(';');
        }
        for (int i = 0; i < 8; i++) {
            s.append("lock ").append((char) ('a' + i)).append(" near 0 opens notes > ").append(i + 5).append(';');
        }
        TuneLocks x = Check.told(s.toString());
        for (int i = 0; i < 14; i++) {
            int longer = Math.max(0, Math.min(i + 1, 12) - 5);
            c.due("doors of tune " + i, x.doors(i, false), (1 << longer) - 1);
        }
        for (int i = 0; i < 8; i++) {
            c.due("least of lock " + i, x.least(i, false), i < 7 ? i + 5 : NONE);
        }
        c.due("sung", x.song(11, 0), 127);
        c.due("a 13th note", x.sing(0, 1), 128);
        c.due("the last one heard", x.heard(13, 0), 0);
        c.due("the last watched", x.watch(7, false, false), 0);
        c.due("all are left", x.left(0), (1 << 14) - 1);
        // What was told two towns ago is in none of them.
        Check.put(x, "tune z of 1 1;lock z near 0 opens 1;");
        c.due("a lock", x.town(), 1);
        Check.put(x, "tune z of" + notes(3) + ";tune y of" + notes(2) + ";lock z near 0 opens notes < 3;lock y near 0 opens notes = 1;");
        c.due("two locks", x.town(), 2);
        c.due("least", x.least(0, false), 1);
        c.due("none", x.least(1, false), NONE);
        c.due("doors", x.doors(1, false), 1);
        c.due("dealt", x.dealt(0), 1);
        c.due("left", x.left(0), 3);
    }

    /** A TUNE a, a SONG of two NOTES that a is off by so much, and a LOCK that asks for a. */
    private static TuneLocks offBy(int off, int near, String e) {
        return Check.told("tune a of 0 1 5 1;tune s of 0 1 " + (5 + off) + " 1;lock l near " + near + " opens " + e + ";");
    }

    /** "1, if the TUNE is IN it with OFF of near or less, else 0; begins: likewise .., ends: ..". */
    private void askedWithNearOrLess() {
        for (String e : new String[] {"in a", "begins a", "ends a"}) {
            for (int near = 0; near <= 20; near++) {
                TuneLocks just = offBy(near, near, e);
                c.due(e + " off by near " + near, just.asked(0, 1, false), 1);
                c.due(e + " off by near " + near, just.doors(1, false), 1);
                TuneLocks beyond = offBy(near + 1, near, e);
                c.due(e + " off by one more than " + near, beyond.asked(0, 1, false), 0);
                c.due(e + " off by one more than " + near, beyond.doors(1, false), 0);
            }
        }
    }

    /** "begins: AT the first place, ends: AT the last at which it fits"; one that is longer fits nowhere. */
    private void beginsAndEnds() {
        TuneLocks x = Check.told("tune up of 0 1 2 1;tune by of 0 1 1 1;tune song of 5 1 7 1 8 1;tune long of 5 1 7 1 8 1 8 1;"
                + "lock a near 0 opens begins up;lock b near 0 opens ends up;lock c near 0 opens begins by;"
                + "lock d near 0 opens ends by;lock e near 0 opens in up;lock f near 0 opens in by;"
                + "lock g near 20 opens in long or begins long or ends long;lock h near 0 opens begins song and ends song;");
        c.due("up, then by", x.doors(2, false), 1 | 8 | 16 | 32 | 128);
        c.due("as long as the song", x.doors(0, false), 1 | 2 | 16);
        c.due("long: ends by a note alike", x.doors(3, false), 1 | 16 | 32 | 64);
        c.due("longer, asked", x.asked(6, 2, false), 0);
        c.due("longer, begins and ends", x.asked(7, 0, true), 0);
        TuneLocks y = Check.told("tune two of 0 1 0 1;tune one of 9 9;lock a near 20 opens in two;lock b near 20 opens begins two;"
                + "lock c near 20 opens ends two;lock d near 0 opens in one + begins one + ends one;");
        c.due("longer than one note, near 20", y.doors(1, false), 8);
        c.due("one note in all three ways", y.asked(3, 1, false), 3);
    }

    /** "night: 1 at night; notes: how many it has; worn: how often the LOCK opened in earnest". */
    private void nightNotesWorn() {
        TuneLocks x = Check.told("tune one of 1 1;tune all of" + notes(12) + ";lock a near 0 opens night;"
                + "lock b near 0 opens notes;lock c near 0 opens worn or notes > 20;lock d near 0 opens worn + 1;");
        c.due("by day", x.asked(0, 0, false), 0);
        c.due("at night", x.asked(0, 0, true), 1);
        c.due("1 note", x.asked(1, 0, false), 1);
        c.due("12 notes", x.asked(1, 1, false), 12);
        c.due("never opened", x.asked(3, 0, false), 1);
        c.due("it is night in earnest", x.night(true), true);
        c.due("but asked by day", x.asked(0, 0, false), 0);
        c.due("sung", x.sing(1, 1), 1 | 2 | 8);
        c.due("opened once", x.asked(3, 0, false), 2);
        c.due("open, so not once more", x.sing(1, 1), 0);
        c.due("opened once", x.asked(3, 0, false), 2);
        c.due("each lock by itself", x.asked(2, 0, false), 0);
    }

    /** A LOCK that opened so often; it opens to one NOTE, and to a TUNE that is near. */
    private static TuneLocks worn(int times, int near, int off) {
        TuneLocks x = offBy(off, near, "in a or notes < 2");
        for (int i = 0; i < times; i++) {
            x.sing(0, 1);
            x.shut(0);
            x.silence();
        }
        return x;
    }

    /** "near: as told, and a third of worn (cut)". */
    private void thirdOfWorn() {
        for (int times = 0; times <= 13; times++) {
            TuneLocks x = worn(times, 2, 2 + times / 3);
            c.due("worn", x.lock(0, 1), times);
            c.due("near, worn " + times, x.lock(0, 2), 2 + times / 3);
            c.due("just near, worn " + times, x.asked(0, 1, false), 1);
            c.due("just near, worn " + times, x.doors(1, true), 1);
            c.due("one more, worn " + times, worn(times, 2, 3 + times / 3).asked(0, 1, false), 0);
        }
    }

    /** "20 at most". */
    private void twentyAtMost() {
        c.due("19, worn 2", worn(2, 19, 19).lock(0, 2), 19);
        c.due("19, worn 2: 20 off", worn(2, 19, 20).asked(0, 1, false), 0);
        c.due("19, worn 3", worn(3, 19, 20).lock(0, 2), 20);
        c.due("19, worn 3: 20 off", worn(3, 19, 20).asked(0, 1, false), 1);
        c.due("19, worn 6", worn(6, 19, 20).lock(0, 2), 20);
        c.due("19, worn 6: 21 off", worn(6, 19, 21).asked(0, 1, false), 0);
        c.due("20, worn 3", worn(3, 20, 20).lock(0, 2), 20);
        c.due("20, worn 3: 20 off", worn(3, 20, 20).asked(0, 1, false), 1);
        c.due("20, worn 3: 21 off", worn(3, 20, 21).asked(0, 1, false), 0);
        c.due("0, worn 60", worn(60, 0, 20).lock(0, 2), 20);
        c.due("0, worn 63", worn(63, 0, 21).lock(0, 2), 20);
        c.due("0, worn 63: 21 off", worn(63, 0, 21).asked(0, 1, false), 0);
        c.due("0, worn 59", worn(59, 0, 20).lock(0, 2), 19);
    }

    /** "(ints, wrapping ..)": the greatest and the least that 60 units come to; neither wraps, neither is GAP. */
    private void greatSums() {
        String tune = "tune a of 1 1;lock l near 0 opens ";
        c.due("60 of 9999", Check.told(tune + "9999" + "+9999".repeat(59) + ";").asked(0, 0, false), 599940);
        c.due("59 of 9999 away", Check.told(tune + "0" + "-9999".repeat(59) + ";").asked(0, 0, false), -589941);
        c.due("below 0, away", Check.told(tune + "0-(0-5);").asked(0, 0, false), 5);
        c.due("that of none such", Check.told(tune + "1;").asked(1, 0, false), GAP);
    }

    /** "relations, and, or, not are 1 or 0, of what is not 0"; "It OPENS, if e is not 0, and the SONG has a NOTE". */
    private void notZero() {
        String[] es = {"2<3", "3<3", "3<2", "3>2", "3>3", "2>3", "3=3", "3=2", "2=3", "7 and 9", "7 and 0", "0 and 7", "0 and 0",
            "7 or 9", "7 or 0", "0 or 7", "0 or 0", "not 0", "not 1", "not 7", "not (0-1)", "(0-1) and (0-1)", "0 or (0-7)",
            "(0-7) or 0", "(0-7) or (0-7)", "(0-7) and 1", "1 and (0-7)", "(0-7) and 0", "0 and (0-7)",
            "0-1<0", "0-1>0", "0-1", "0", "1", "1-1", "not 0-1"};
        int[] due = {1, 0, 0, 1, 0, 0, 1, 0, 0, 1, 0, 0, 0,
            1, 1, 1, 0, 1, 0, 0, 0, 1, 1,
            1, 1, 1, 1, 0, 0,
            1, 0, -1, 0, 1, 0, 0};
        for (int i = 0; i < due.length; i++) {
            TuneLocks x = Check.told("tune a of 1 1;lock l near 0 opens " + es[i] + ";");
            c.due(es[i], x.asked(0, 0, false), due[i]);
            c.due("doors " + es[i], x.doors(0, false), due[i] == 0 ? 0 : 1);
            c.due("least " + es[i], x.least(0, false), due[i] == 0 ? NONE : 0);
            c.due("nothing sung, " + es[i], x.lock(0, 0), 0);
            c.due("sung, " + es[i], x.sing(1, 1), due[i] == 0 ? 0 : 1);
        }
        c.bad(2, "lock l near 0 opens 0=0^=0;");
        TuneLocks x = Check.told("lock l near 0 opens 1;");
        c.due("no note, so it stays shut", x.silence(), 0);
        c.due("no note, so it stays shut", x.lock(0, 0), 0);
        c.due("one note", x.sing(0, 1), 1);
    }

    // ---- sets of TUNES

    /** "NEAR of two TUNES by n: one is IN the other with OFF of n or less"; "DEALT by n (0 .. 99) .. NONE for another n". */
    private void nearOfTwoTunes() {
        TuneLocks x = Check.told("tune a of 0 1 0 1;tune b of 0 1 7 1;");
        c.due("off by 7, dealt(6)", x.dealt(6), 3);
        c.due("off by 7, dealt(7)", x.dealt(7), 1);
        TuneLocks same = Check.told("tune a of 0 1 0 1;tune b of 5 3 5 3;tune c of 0 1 1 1;");
        c.due("off by 0, dealt(0)", same.dealt(0), 5);
        c.due("dealt(1)", same.dealt(1), 1);
        TuneLocks far = Check.told("tune a of 0 1 0 1 0 1;tune b of 0 1 60 1 21 1;");
        c.due("off by 99, dealt(98)", far.dealt(98), 3);
        c.due("off by 99, dealt(99)", far.dealt(99), 1);
        TuneLocks farther = Check.told("tune a of 0 1 0 1 0 1;tune b of 0 1 60 1 20 1;");
        c.due("off by 100, dealt(99)", farther.dealt(99), 3);
        c.due("dealt(100)", farther.dealt(100), NONE);
        for (int n : FAR) {
            c.due("dealt " + n, farther.dealt(n), NONE);
        }
        // Only the shorter one can be in the other, whichever is told first.
        TuneLocks y = Check.told("tune long of 0 1 5 1 7 1;tune short of 0 1 2 1;");
        c.due("the second in the first", y.dealt(0), 1);
        TuneLocks z = Check.told("tune short of 0 1 2 1;tune long of 0 1 5 1 7 1;");
        c.due("the first in the second", z.dealt(0), 1);
        TuneLocks v = Check.told("tune long of 0 1 5 1 7 1;tune short of 0 1 3 1;lock l near 9 opens 1+1+1+1+1;");
        c.due("the second off by 1 in the first, dealt(0)", v.dealt(0), 3);
        c.due("the second off by 1 in the first, dealt(1)", v.dealt(1), 1);
        TuneLocks w = Check.told("tune short of 0 1 3 1;tune long of 0 1 5 1 7 1;lock l near 9 opens 1+1+1+1+1;");
        c.due("the first off by 1 in the second, dealt(0)", w.dealt(0), 3);
        c.due("the first off by 1 in the second, dealt(1)", w.dealt(1), 1);
    }

    /** "the most TUNES no two of which are NEAR; of like ones the least set (as bits)". */
    private void mostTunesLeastSet() {
        c.due("of no tunes", new TuneLocks().dealt(0), 0);
        c.due("of one", Check.told("tune a of 1 1;").dealt(99), 1);
        StringBuilder apart = new StringBuilder();
        StringBuilder alike = new StringBuilder();
        for (int i = 0; i < 14; i++) {
            apart.append("tune ").append((char) ('a' + i)).append(" of 0 1 ").append(i * 2).append(" 1;");
            alike.append("tune ").append((char) ('a' + i)).append(" of 0 1 1 1;");
        }
        c.due("14 apart", Check.told(apart.toString()).dealt(1), (1 << 14) - 1);
        c.due("each near the next", Check.told(apart.toString()).dealt(2), 0x1555);
        c.due("14 alike", Check.told(alike.toString()).dealt(0), 1);
        // a with b, c with d are near: of four sets of two the least.
        TuneLocks x = Check.told("tune a of 0 1 0 1;tune b of 0 1 1 1;tune c of 0 1 20 1;tune d of 0 1 21 1;");
        c.due("least set", x.dealt(1), 5);
        // b is near a and c, all else is apart: most goes ahead of least.
        TuneLocks y = Check.told("tune b of 0 1 30 1;tune a of 0 1 10 1;tune c of 0 1 50 1;tune d of 20 1 0 1;");
        c.due("most", y.dealt(20), 14);
        c.due("most", y.dealt(19), 15);
        // Of {a, d}, {b, c}, {b, d} the least is {b, c}.
        TuneLocks z = Check.told("tune a of 0 1 10 1;tune b of 0 1 15 1;tune c of 0 1 5 1;tune d of 0 1 0 1;");
        c.due("the highest bit counts most", z.dealt(9), 6);
    }

    /** "a set of up to 6 TUNES"; "-2 with more than 6"; "0 of none"; "NONE if one can't be, or for another what". */
    private void upToSixTunes() {
        StringBuilder s = new StringBuilder();
        for (int i = 0; i < 7; i++) {
            s.append("tune ").append((char) ('a' + i)).append(" of 0 1 ").append(i).append(" 1;");
        }
        TuneLocks x = Check.told(s.toString());
        c.due("none", x.master(0, 0), 0);
        for (int what = 1; what <= 6; what++) {
            c.due("none, " + what, x.master(0, what), NONE);
            c.due("one, " + what, x.master(64, what), what == 1 ? 6 : NONE);
            c.due("six, " + what, x.master(63, what), what - 1);
            c.due("six others, " + what, x.master(126, what), what);
            c.due("seven, " + what, x.master(127, what), -2);
        }
        c.due("six", x.master(63, 0), 7);
        c.due("seven", x.master(127, 0), -2);
        for (int far : FAR) {
            c.due("what " + far, x.master(63, far), NONE);
            c.due("none, what " + far, x.master(0, far), NONE);
        }
        c.due("what 7", x.master(63, 7), NONE);
        c.due("none, what 7", x.master(0, 7), NONE);
        for (int bit = 7; bit < 32; bit++) {
            c.due("tune " + bit, x.master(1 << bit, 0), NONE);
            c.due("tune " + bit + " with others", x.master(1 << bit | 3, 1), NONE);
        }
    }

    /** "those left out that are IN another one with OFF 0 (of two alike the greater number)". */
    private void leftOutOfAMaster() {
        TuneLocks x = Check.told("tune a of 0 1 1 2;tune b of 5 3 6 6;tune c of 9 1 10 2 0 1;tune d of 9 1 10 1 0 1;"
                + "tune e of 7 7;tune f of 1 9;");
        laid(x, 3, 2, 0);
        laid(x, 2, 2, 1);
        laid(x, 5, 3, 2);
        laid(x, 7, 3, 2);
        // Off by the pace alone: not left out.
        laid(x, 9, 4, 0, 3);
        laid(x, 48, 1, 4);
        laid(x, 32, 1, 5);
        laid(x, 17, 2, 0);
        laid(x, 63, 5, 2, 3);
    }

    private void laid(TuneLocks x, int set, int notes, int... row) {
        c.due("master of " + set, x.master(set, 0), notes);
        for (int i = 1; i <= 6; i++) {
            c.due("master of " + set + ", " + i, x.master(set, i), i <= row.length ? row[i - 1] : NONE);
        }
    }

    /** "laid one behind the other, each over the end of that ahead by as many NOTES as can be". */
    private void laidOverTheEnd() {
        // Any two share a note.
        laid(Check.told("tune a of 0 1 1 1;tune b of 0 1 2 1;"), 3, 3, 0, 1);
        // All notes but one are shared.
        laid(Check.told("tune a of 0 1 1 1 3 1 6 1;tune b of 1 2 3 2 6 2 10 2;"), 3, 5, 0, 1);
        laid(Check.told("tune b of 1 2 3 2 6 2 10 2;tune a of 0 1 1 1 3 1 6 1;"), 3, 5, 1, 0);
        // Two notes would be as high, but not as long.
        laid(Check.told("tune a of 0 1 1 1 3 1;tune b of 1 1 3 2 4 1;"), 3, 5, 0, 1);
        laid(Check.told("tune a of 0 1 1 1 3 2;tune b of 1 1 3 2 4 1;"), 3, 4, 0, 1);
        // Pace goes by the note that is laid over: 3 6 is 2 4.
        laid(Check.told("tune a of 0 9 1 3 3 6;tune b of 1 2 3 4 4 1;"), 3, 4, 0, 1);
        // As many as can be: three notes, not the one.
        laid(Check.told("tune a of 9 1 0 1 0 1 0 1;tune b of 0 1 0 1 0 1 9 1;"), 3, 5, 0, 1);
        // Six of 12 notes that share one each time.
        StringBuilder s = new StringBuilder();
        for (int i = 1; i <= 6; i++) {
            s.append("tune ").append((char) ('a' + i)).append(" of");
            for (int j = 0; j < 12; j++) {
                s.append(' ').append(j % 2 * i * 2 + j / 11).append(" 1");
            }
            s.append(";");
        }
        laid(Check.told(s.toString()), 63, 6 * 12 - 5, 0, 1, 2, 3, 4, 5);
    }

    /** "by as many NOTES as can be": of twelve the last one, the last two .. the last eleven, in another key and pace. */
    private void laidOverByEach() {
        int[] high = {20, 21, 19, 22, 18, 23, 17, 24, 16, 25, 15, 26};
        for (int over = 1; over <= 11; over++) {
            StringBuilder a = new StringBuilder("of");
            StringBuilder b = new StringBuilder("of");
            for (int i = 0; i < 12; i++) {
                a.append(' ').append(high[i]).append(' ').append(i % 3 + 1);
                if (i >= 12 - over) {
                    b.append(' ').append(high[i] + 9).append(' ').append((i % 3 + 1) * 3);
                }
            }
            b.append(" 60 1;");
            laid(Check.told("tune a " + a + ";tune b " + b), 3, 13, 0, 1);
            // By one NOTE they may be laid either way.
            laid(Check.told("tune b " + b + "tune a " + a + ";"), 3, 13, over == 1 ? 0 : 1, over == 1 ? 1 : 0);
        }
    }

    /** "of like rows the first (by numbers, the first counts most)". */
    private void firstRow() {
        laid(Check.told("tune a of 0 1 1 1;tune b of 0 1 2 1;tune c of 0 1 3 1;"), 7, 4, 0, 1, 2);
        laid(Check.told("tune a of 0 1 1 1;tune b of 0 1 2 1;tune c of 0 1 3 1;"), 6, 3, 1, 2);
        // c over a by two notes, b anywhere: b c a, c a b; the first number counts most.
        laid(Check.told("tune a of 0 1 5 1 6 1;tune b of 0 1 9 1;tune c of 0 1 4 1 9 1;"), 7, 5, 1, 2, 0);
        // a over c by two notes: a c b goes ahead of b a c.
        laid(Check.told("tune a of 0 1 4 1 9 1;tune b of 0 1 9 1;tune c of 0 1 5 1 6 1;"), 7, 5, 0, 2, 1);
    }

    // ---- rounds

    /** "ROUND of a TUNE and d (1 .. 99)"; "moments (of length 1, in which both sing)". */
    private void laterByD() {
        TuneLocks x = Check.told("sweet 11;tune a of 0 9 0 9 0 9 0 9 0 9 0 9 0 9 0 9 0 9 0 9 0 9 0 9;tune b of 3 1;"
                + "tune c of 3 2;tune d of 3 9 3 9 3 9 3 9 3 9 3 9 3 9 3 9 3 9 3 9 3 9;tune e of 3 9 3 1;");
        for (int d = 1; d <= 99; d++) {
            c.due("108 moments, later by " + d, x.round(0, d), 108 - d);
            c.due("99 moments, later by " + d, x.round(3, d), 99 - d);
            c.due("10 moments, later by " + d, x.round(4, d), Math.max(0, 10 - d));
        }
        c.due("later by 0", x.round(0, 0), NONE);
        c.due("later by 100", x.round(0, 100), NONE);
        c.due("one moment", x.round(1, 1), 0);
        c.due("two moments", x.round(2, 1), 1);
        c.due("two moments", x.round(2, 2), 0);
        for (int d : FAR) {
            c.due("later by " + d, x.round(0, d), NONE);
        }
    }

    /** "by how much one of both is higher than the other, modulo 12, none of the told". */
    private void oneHigherThanTheOther() {
        for (int apart = 0; apart <= 60; apart++) {
            TuneLocks x = Check.told("sweet " + apart % 12 + ";tune up of 0 1 " + apart + " 1;tune down of " + apart + " 1 0 1;");
            c.due("sweet, " + apart + " higher", x.round(0, 1), 0);
            c.due("sweet, " + apart + " lower", x.round(1, 1), 0);
            TuneLocks y = Check.told("sweet " + (apart + 1) % 12 + ";tune up of 0 1 " + apart + " 1;tune down of " + apart + " 1 0 1;");
            c.due("not sweet, " + apart + " higher", y.round(0, 1), 1);
            c.due("not sweet, " + apart + " lower", y.round(1, 1), 1);
        }
    }

    /** "that d (1 .. 99) of all by which both sing in some moment, for which ROUND is least; of like ones the least d". */
    private void goodOfAll() {
        goodIs("sweet 11;tune a of 3 1;", NONE, NONE);
        goodIs("sweet 11;tune a of 3 2;", 1, 1);
        // By 2 they never sing at once, so that nothing is not sweet by then doesn't count.
        goodIs("sweet 11;tune a of 3 3;", 2, 1);
        goodIs("sweet 0;tune a of 3 3;", 1, 0);
        // Moments 0 1 0 1 0: by 2 and 4 all is sweet.
        goodIs("sweet 0;tune a of 0 1 1 1 0 1 1 1 0 1;", 2, 0);
        // Moments 0 1 2 0: only by 3.
        goodIs("sweet 0;tune a of 0 1 1 1 2 1 0 1;", 3, 0);
        goodIs("sweet 11;tune a of 0 9 0 9 0 9 0 9 0 9 0 9 0 9 0 9 0 9 0 9 0 9 0 9;", 99, 9);
        goodIs("sweet 11;tune a of 0 9 0 9 0 9 0 9 0 9 0 9 0 9 0 9 0 9 0 9 0 9;", 98, 1);
        goodIs("sweet 11;tune a of 0 9 0 9 0 9 0 9 0 9 0 9 0 9 0 9 0 9 0 9 0 9 0 1;", 99, 1);
        TuneLocks x = Check.told("tune a of 3 2;");
        for (int what : FAR) {
            c.due("good what " + what, x.good(0, what), NONE);
        }
        c.due("good what 2", x.good(0, 2), NONE);
    }

    private void goodIs(String text, int d, int round) {
        TuneLocks x = Check.told(text);
        c.due("good of " + text, x.good(0, 0), d);
        c.due("good of " + text, x.good(0, 1), round);
    }

    // ---- the deaf, and the shortest that opens

    /** "DEAF for a tone (0 .. 11)"; "NONE if the TUNE is longer, or one can't be". */
    private void deafForATone() {
        TuneLocks x = Check.told("tune two of 5 1 5 1;tune one of 5 1;tune s of 0 1 11 1;tune top of 59 1 60 1;");
        // 0 moves by one, 11 does not: up 10 or 12.
        c.due("tone 0", x.deaf(0, 2, 0), 10);
        c.due("tone 11", x.deaf(0, 2, 11), 10);
        c.due("a tone that is not there", x.deaf(0, 2, 5), 11);
        c.due("59 is 11", x.deaf(0, 3, 11), 0);
        c.due("60 is 0", x.deaf(0, 3, 0), 0);
        c.due("tone -1", x.deaf(0, 2, -1), NONE);
        c.due("tone 12", x.deaf(0, 2, 12), NONE);
        c.due("longer", x.deaf(0, 1, 0), NONE);
        c.due("as long", x.deaf(1, 1, 5), 0);
        for (int tone : FAR) {
            c.due("tone " + tone, x.deaf(0, 2, tone), NONE);
        }
        // 40 is of tone 4: by it both notes move.
        for (int tone = 0; tone < 12; tone++) {
            TuneLocks y = Check.told("tune a of 30 1 30 1;tune s of 40 1 " + (24 + tone) + " 1;");
            c.due("moved " + tone, y.deaf(0, 1, tone), tone == 4 ? 10 : 15 - tone);
        }
    }

    /** "each NOTE of a SONG that is that modulo 12 is sung one lower or one higher, as it may be: the least OFF .. IN it then". */
    private void deafOneByOne() {
        TuneLocks x = Check.told("tune up of 5 1 7 1;tune flat of 5 1 5 1;tune zig of 5 1 7 1 5 1 7 1;tune s of 24 1 24 1 24 1 24 1;"
                + "tune must of 24 1 30 1;tune same of 24 1 36 1;tune slow of 24 1 24 2 24 4;tune by of 5 1 6 1;");
        c.due("one lower, one higher", x.deaf(0, 3, 0), 0);
        c.due("both lower", x.deaf(1, 3, 0), 0);
        c.due("by turns", x.deaf(2, 3, 0), 0);
        TuneLocks all = Check.told("tune zig of" + " 5 1 7 1".repeat(6) + ";tune s of" + " 24 1".repeat(12) + ";tune up of"
                + " 5 1".repeat(11) + " 7 1;");
        c.due("by turns, twelve of them", all.deaf(0, 1, 0), 0);
        c.due("the last one alone higher", all.deaf(2, 1, 0), 0);
        c.due("not deaf", all.deaf(0, 1, 1), 22);
        c.due("not deaf", x.deaf(2, 3, 1), 6);
        // It can't be sung as it is.
        c.due("must be moved", x.deaf(4, 4, 0), 1);
        c.due("both moved alike", x.deaf(5, 5, 0), 0);
        c.due("by one never", x.deaf(7, 3, 0), 1);
        // The lengths stay: at each place one note is out of pace.
        c.due("out of pace still", x.deaf(0, 6, 0), 1);
        // The tune itself is not moved.
        c.due("the song alone", x.deaf(1, 1, 5), 0);
        c.due("the song alone", x.deaf(0, 0, 5), 1);
        // Each way on its own, kept from note to note: 30 23 23 and 30 25 25.
        TuneLocks w = Check.told("tune s of 30 1 24 1 24 1;tune low of 17 1 10 1 10 1;tune high of 15 1 10 1 10 1;"
                + "tune r of 24 1 24 1 30 1;tune up of 10 1 10 1 17 1;tune upon of 10 1 10 1 15 1;"
                + "tune lowhigh of 17 1 10 1 12 1;tune highlow of 15 1 12 1 10 1;");
        c.due("both lower", w.deaf(1, 0, 0), 0);
        c.due("both higher", w.deaf(2, 0, 0), 0);
        c.due("lower, then as it is", w.deaf(4, 3, 0), 0);
        c.due("higher, then as it is", w.deaf(5, 3, 0), 0);
        c.due("lower, then higher", w.deaf(6, 0, 0), 0);
        c.due("higher, then lower", w.deaf(7, 0, 0), 2);
        // Least over all places: only at the last it can be.
        TuneLocks y = Check.told("tune a of 1 1 3 1;tune s of 1 1 20 1 40 1 41 1;");
        c.due("at the last place", y.deaf(0, 1, 5), 0);
        c.due("at the last place", y.deaf(0, 1, 4), 0);
        c.due("not deaf", y.deaf(0, 1, 2), 1);
    }

    /** "the least OFF of a TUNE IN it then": of all places and all ways to sing, each tried here. */
    private void deafAtEachPlace() {
        int[][][] tunes = new int[12][][];
        StringBuilder s = new StringBuilder();
        for (int t = 0; t < 12; t++) {
            tunes[t] = new int[t + 1][];
            s.append("tune ").append((char) ('a' + t)).append(" of");
            for (int i = 0; i <= t; i++) {
                // Some tones again and again, some far away, and few lengths.
                int high = (i * i * (t + 3) + 5 * t) % (t % 3 == 0 ? 5 : 19) + 15 + t % 2 * (i % 3) * 12;
                tunes[t][i] = new int[] {high, (i * t + i / 2) % 2 + 1};
                s.append(' ').append(high).append(' ').append(tunes[t][i][1]);
            }
            s.append(';');
        }
        for (int song = 0; song < 12; song++) {
            TuneLocks x = Check.told(s.toString());
            for (int tune = 0; tune < 12; tune++) {
                for (int tone = 0; tone < 12; tone++) {
                    c.due("deaf(" + tune + ", " + song + ", " + tone + ") of " + s, x.deaf(tune, song, tone),
                            leastDeaf(tunes[tune], tunes[song], tone));
                }
            }
        }
    }

    private static int leastDeaf(int[][] tune, int[][] song, int tone) {
        int least = NONE;
        for (int place = 0; place + tune.length <= song.length; place++) {
            for (int ways = 0; ways < 1 << tune.length; ways++) {
                int off = 0;
                for (int i = 1; i < tune.length; i++) {
                    int there = sung(song[place + i][0], tone, ways >> i) - sung(song[place + i - 1][0], tone, ways >> i - 1);
                    off += Math.abs(tune[i][0] - tune[i - 1][0] - there);
                    off += song[place + i][1] * tune[0][1] == song[place][1] * tune[i][1] ? 0 : 1;
                }
                least = least == NONE || off < least ? off : least;
            }
        }
        return least;
    }

    private static int sung(int high, int tone, int way) {
        return high % 12 != tone ? high : (way & 1) == 0 ? high - 1 : high + 1;
    }

    /** "LEAST: the TUNE of fewest NOTES by which it OPENS as it is; of like ones the first". */
    private void fewestNotes() {
        TuneLocks x = Check.told("tune three of" + notes(3) + ";tune two of 0 1 3 1;tune tow of 0 1 4 1;tune one of 1 1;"
                + "lock a near 0 opens notes > 1;lock b near 0 opens notes > 2;lock c near 0 opens notes > 3;"
                + "lock d near 0 opens notes = 1 or in tow;lock e near 0 opens not night;");
        c.due("of like ones the first", x.least(0, false), 1);
        c.due("of one", x.least(1, false), 0);
        c.due("none", x.least(2, false), NONE);
        c.due("fewest, though last", x.least(3, false), 3);
        c.due("by day", x.least(4, false), 3);
        c.due("at night none", x.least(4, true), NONE);
        TuneLocks y = Check.told("tune three of" + notes(3) + ";tune one of 1 1;lock l near 0 opens notes = 3 or worn > 2;"
                + "lock m near 0 opens worn > 2;");
        for (int i = 0; i <= 3; i++) {
            c.due("as it is, worn " + i, y.least(0, false), i < 3 ? 0 : 1);
            c.due("the lock's own wear", y.least(1, false), NONE);
            y.song(0, 0);
            y.shut(0);
            y.silence();
        }
    }
}
