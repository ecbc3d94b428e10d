/** Each promise in turn, with answers worked out by hand from the document. */
public final class PromisesTest {
    private static final int NONE = -1;
    private static final int GAP = -1000000;
    private static final int MIN = Integer.MIN_VALUE;
    private static final int MAX = Integer.MAX_VALUE;

    // Steps: up 2 3, long 1 1 2; down -2 -3; wide is up with its last step 5 and its second note too long.
    private static final String STEPS = "tune up of 10 1 12 1 15 2;tune down of 15 1 13 1 10 2;"
            + "tune wide of 20 2 22 4 27 4;tune lone of 0 9;tune upup of 5 1 10 2 12 2 15 4 17 3;";

    private final Check c = new Check();

    public static void main(String[] args) {
        PromisesTest t = new PromisesTest();
        t.newObject();
        t.tape();
        t.townAndFault();
        t.notesAndSteps();
        t.offAndIn();
        t.doorsAndAsked();
        t.questions();
        t.dealt();
        t.master();
        t.masterRows();
        t.rounds();
        t.deaf();
        t.least();
        t.singing();
        t.songs();
        t.silenceShutNight();
        t.wear();
        t.heard();
        t.watches();
        t.times();
        t.next();
        t.images();
        t.about();
        t.c.finish();
    }

    private void newObject() {
        TuneLocks x = new TuneLocks();
        c.due("new: fault(0)", x.fault(0), 0);
        c.due("new: fault(1)", x.fault(1), NONE);
        for (int i = 0; i < 8; i++) {
            c.due("new: about(" + i + ")", x.about(i), 0);
        }
        c.due("new: doors", x.doors(0, true), NONE);
        c.due("new: asked", x.asked(0, 0, true), GAP);
        c.due("new: in", x.in(0, 0, 0), NONE);
        c.due("new: off", x.off(0, 0, 0), NONE);
        c.due("new: next", x.next(2, 0), NONE);
        c.due("new: back", x.back(0), NONE);
        c.due("new: shut", x.shut(0), false);
        c.due("new: untell", x.untell(0), false);
        c.due("new: watch", x.watch(0, true, true), NONE);
        c.due("new: night", x.night(false), false);
        c.due("new: song", x.song(0, 0), NONE);
        c.due("new: town", x.town(), 0);
    }

    private void tape() {
        TuneLocks x = new TuneLocks();
        c.due("feed", x.feed(0x74756e65, 0x2061206f, 0x66203120, 0x313b2020, 0x20202020), 20);
        c.due("end(21)", x.end(21), NONE);
        c.due("end(-1)", x.end(-1), NONE);
        c.due("end(min)", x.end(MIN), NONE);
        c.due("about(6)", x.about(6), 20);
        c.due("town", x.town(), 0);
        c.due("notes", x.notes(0), 1);
        c.due("tape empty", x.about(6), 0);
        for (int i = 1; i <= 85; i++) {
            c.due("feed " + i, x.feed(0x20202020, 0x20202020, 0x20202020, 0x20202020, 0x20202020), i * 20);
        }
        c.due("feed beyond", x.feed(0, 0, 0, 0, 0), NONE);
        c.due("about(6) full", x.about(6), 1700);
        c.due("end(1681)", x.end(1681), 1681);
        c.due("feed beyond by one", x.feed(0, 0, 0, 0, 0), NONE);
        c.due("about(6)", x.about(6), 1681);
        c.due("end(1680)", x.end(1680), 1680);
        c.due("feed to the last", x.feed(-1, 0, 0, 0, 0), 1700);
        c.due("town of blanks, then 255", x.town(), NONE);
        c.due("fault(0)", x.fault(0), 1);
        c.due("fault(1)", x.fault(1), 1680);
        c.due("end(1680)", x.end(1680), 1680);
        c.due("town of blanks", x.town(), 0);
        c.due("end(0)", x.end(0), 0);
    }

    private void townAndFault() {
        TuneLocks x = Check.told("tune a of 1 1;lock l near 0 opens 1;lock m near 0 opens night;");
        c.due("locks", x.about(1), 2);
        x.sing(3, 3);
        x.night(true);
        x.watch(0, false, true);
        x.later(7);
        x.image(1);
        Check.put(x, "tune b of 1 ;");
        c.due("town with a fault", x.town(), NONE);
        c.due("fault(0)", x.fault(0), 2);
        c.due("fault(1)", x.fault(1), 12);
        c.due("fault(2)", x.fault(2), NONE);
        c.due("fault(-1)", x.fault(-1), NONE);
        c.due("a fault: the tape stays", x.about(6), 13);
        c.due("a fault: tunes stay", x.about(0), 1);
        c.due("a fault: locks stay", x.about(1), 2);
        c.due("a fault: the voice stays", x.about(2), 1);
        c.due("a fault: night stays", x.about(3), 1);
        c.due("a fault: watches stay", x.about(4), 1);
        c.due("a fault: doors stay", x.lock(0, 0), 1);
        c.due("a fault: boxes stay", x.back(1), 1);
        c.due("a fault: units stay", x.about(7), 2);
        c.due("end(0)", x.end(0), 0);
        Check.put(x, "tune a of 1 1 2 2; lock z near 3 opens 1;");
        c.due("town", x.town(), 1);
        c.due("fault(0) of none", x.fault(0), 0);
        c.due("fault(1) of none", x.fault(1), NONE);
        c.due("new town: no voice", x.about(2), 0);
        c.due("new town: day", x.about(3), 0);
        c.due("new town: no watches", x.about(4), 0);
        c.due("new town: the time stays", x.about(5), 7);
        c.due("new town: tape empty", x.about(6), 0);
        c.due("new town: boxes empty", x.back(1), NONE);
        c.due("new town: shut", x.lock(0, 0), 0);
        c.due("new town: not worn", x.lock(0, 1), 0);
        c.due("an empty town", x.town(), 0);
        c.due("an empty town: tunes", x.about(0), 0);
    }

    private void notesAndSteps() {
        TuneLocks x = Check.told(STEPS);
        c.due("notes(0)", x.notes(0), 3);
        c.due("notes(3)", x.notes(3), 1);
        c.due("notes(5)", x.notes(5), NONE);
        c.due("notes(-1)", x.notes(-1), NONE);
        c.due("notes(max)", x.notes(MAX), NONE);
        c.due("step(0, 0)", x.step(0, 0), 2);
        c.due("step(1, 1)", x.step(1, 1), -3);
        c.due("step(0, 2)", x.step(0, 2), GAP);
        c.due("step(0, -1)", x.step(0, -1), GAP);
        c.due("step(0, max)", x.step(0, MAX), GAP);
        c.due("step(0, min)", x.step(0, MIN), GAP);
        c.due("step(3, 0)", x.step(3, 0), GAP);
        c.due("step(5, 0)", x.step(5, 0), GAP);
        c.due("step(-1, 0)", x.step(-1, 0), GAP);
        TuneLocks y = Check.told("tune a of 60 9 0 1 1 1 1 1 1 1 1 1 1 1 1 1 1 1 1 1 1 1 60 2;");
        c.due("12 notes", y.notes(0), 12);
        c.due("down 60", y.step(0, 0), -60);
        c.due("up 59", y.step(0, 10), 59);
        c.due("behind the last", y.step(0, 11), GAP);
    }

    private void offAndIn() {
        TuneLocks x = Check.told(STEPS);
        c.due("off of itself", x.off(0, 0, 0), 0);
        // Steps 2 3 against -2 -3: 4 + 6; the lengths are alike.
        c.due("off(0, 1, 0)", x.off(0, 1, 0), 10);
        // Steps 2 3 against 2 5: 2; lengths 1 1 2 against 2 4 4: the second note is out of pace.
        c.due("off(0, 2, 0)", x.off(0, 2, 0), 3);
        c.due("off(2, 0, 0)", x.off(2, 0, 0), 3);
        // upup: 5 2 3 2, lengths 1 2 2 4 3. At 0: 3 + 1, and 2 and 2 for 1 and 2: one out of pace.
        c.due("off(0, 4, 0)", x.off(0, 4, 0), 5);
        c.due("off(0, 4, 1)", x.off(0, 4, 1), 0);
        // At 2: steps 3 2: 1 + 1; lengths 2 4 3 for 1 1 2: 4 is out, 3 is out.
        c.due("off(0, 4, 2)", x.off(0, 4, 2), 4);
        c.due("off(0, 4, 3)", x.off(0, 4, 3), NONE);
        c.due("off(0, 4, -1)", x.off(0, 4, -1), NONE);
        c.due("off(0, 4, min)", x.off(0, 4, MIN), NONE);
        c.due("off(0, 4, max)", x.off(0, 4, MAX), NONE);
        c.due("off(4, 0, 0)", x.off(4, 0, 0), NONE);
        c.due("off(5, 0, 0)", x.off(5, 0, 0), NONE);
        c.due("off(0, 5, 0)", x.off(0, 5, 0), NONE);
        c.due("off(-1, 0, 0)", x.off(-1, 0, 0), NONE);
        c.due("off(0, -1, 0)", x.off(0, -1, 0), NONE);
        c.due("off of one note", x.off(3, 4, 4), 0);
        c.due("in(0, 4, 0)", x.in(0, 4, 0), 1);
        c.due("in(0, 4, 1)", x.in(0, 4, 1), 0);
        c.due("in(0, 4, 2)", x.in(0, 4, 2), NONE);
        c.due("in(0, 2, 2)", x.in(0, 2, 2), 1);
        c.due("in(0, 1, 2)", x.in(0, 1, 2), 1);
        c.due("in of one note", x.in(3, 4, 0), 0);
        c.due("in(4, 0, 0)", x.in(4, 0, 0), NONE);
        c.due("in(4, 0, 1)", x.in(4, 0, 1), NONE);
        c.due("in(0, 4, 3)", x.in(0, 4, 3), NONE);
        c.due("in(0, 4, -1)", x.in(0, 4, -1), NONE);
        c.due("in(0, 5, 0)", x.in(0, 5, 0), NONE);
        c.due("in(-1, 0, 0)", x.in(-1, 0, 0), NONE);
        // Off by the step to note 2 alone, and of like places the first.
        TuneLocks y = Check.told("tune a of 10 1 11 1 12 1;tune s of 0 1 1 1 3 1 4 1 6 1;tune l of 9 3 10 3 11 4;");
        c.due("like places", y.in(0, 1, 0), 0);
        c.due("like places: off", y.in(0, 1, 1), 1);
        c.due("like places: first off", y.in(0, 1, 2), 2);
        c.due("by pace alone", y.in(0, 2, 1), 1);
        c.due("by pace alone: first off", y.in(0, 2, 2), 2);
    }

    private void doorsAndAsked() {
        TuneLocks x = Check.told(STEPS + "lock a near 3 opens in up;lock b near 2 opens in up;"
                + "lock c near 0 opens begins up or night;lock d near 4 opens ends up and not night;"
                + "lock e near 0 opens notes - 3;");
        // up: OFF 0 in itself.
        c.due("doors(0, day)", x.doors(0, false), 15);
        c.due("doors(0, night)", x.doors(0, true), 7);
        c.due("doors(2, day)", x.doors(2, false), 1 | 8);
        c.due("doors(2, night)", x.doors(2, true), 1 | 4);
        // upup: up lies at 1; at its end OFF is 4; 5 notes.
        c.due("doors(4, day)", x.doors(4, false), 1 | 2 | 8 | 16);
        c.due("doors(3, day)", x.doors(3, false), 16);
        c.due("doors(5, day)", x.doors(5, false), NONE);
        c.due("doors(-1, day)", x.doors(-1, false), NONE);
        c.due("asked notes", x.asked(4, 4, false), 2);
        c.due("asked notes below 0", x.asked(4, 3, false), -2);
        c.due("asked, no lock", x.asked(5, 0, false), GAP);
        c.due("asked, no lock", x.asked(-1, 0, false), GAP);
        c.due("asked, no tune", x.asked(0, 5, false), GAP);
        c.due("asked, no tune", x.asked(0, -1, true), GAP);
    }

    private void questions() {
        ask("7", 7);
        ask("0", 0);
        ask("9999 + 1", 10000);
        ask("1 - 2 - 3", -4);
        ask("1 - (2 - 3)", 2);
        ask("2 < 3", 1);
        ask("3 < 3", 0);
        ask("3 > 2", 1);
        ask("3 > 3", 0);
        ask("3 = 3", 1);
        ask("3 = 4", 0);
        ask("1 + 2 = 4 - 1", 1);
        ask("5 and 3", 1);
        ask("5 and 0", 0);
        ask("0 or 9", 1);
        ask("0 or 0", 0);
        ask("not 5", 0);
        ask("not 0", 1);
        ask("not not 5", 1);
        ask("not 2 < 1", 1);
        ask("not 0 + 5", 0);
        ask("1 or 1 and 0", 1);
        ask("(1 or 1) and 0", 0);
        ask("(5)", 5);
        ask("(1 < 2) + (2 < 3) + notes", 5);
        ask("night - 1", -1);
        ask("worn", 0);
        ask("in a + begins a + ends a", 3);
        ask("not in a", 0);
        ask("0001", 1);
    }

    private void ask(String e, int want) {
        TuneLocks x = Check.told("tune a of 3 1 4 1 5 1; lock l near 0 opens " + e + ";");
        c.due("asked " + e, x.asked(0, 0, false), want);
        c.due("doors " + e, x.doors(0, false), want != 0 ? 1 : 0);
    }

    private void dealt() {
        TuneLocks x = Check.told(STEPS);
        // By 0: lone is in all; up is in upup; up, down, wide or down, wide, upup: the least set.
        c.due("dealt(0)", x.dealt(0), 7);
        // By 3: up and wide are near; down stays, and wide and upup are off by 3 or more:
        // wide in upup: steps 2 5, lengths 2 4 4 against 5 2 3 2, 1 2 2 4 3.
        // at 0: 3 + 3, note 2 (2 for 2:2 = 1 * 4) out; at 1: 0 + 2, notes 1 out: 3.
        c.due("dealt(2)", x.dealt(2), 7);
        c.due("dealt(3)", x.dealt(3), 3);
        c.due("dealt(99)", x.dealt(99), 1);
        c.due("dealt(100)", x.dealt(100), NONE);
        c.due("dealt(-1)", x.dealt(-1), NONE);
        c.due("dealt of one", Check.told("tune a of 1 1;").dealt(0), 1);
        // Three in a row, the middle near both: the two outer ones.
        TuneLocks y = Check.told("tune m of 0 1 5 1;tune a of 0 1 2 1;tune b of 0 1 8 1;");
        c.due("dealt(2)", y.dealt(2), 7);
        c.due("dealt(3)", y.dealt(3), 6);
        c.due("dealt(5)", y.dealt(5), 6);
        c.due("dealt(6)", y.dealt(6), 1);
    }

    private void master() {
        TuneLocks x = Check.told(STEPS);
        c.due("master of none", x.master(0, 0), 0);
        c.due("master of none, row", x.master(0, 1), NONE);
        c.due("master of up", x.master(1, 0), 3);
        c.due("master of up, row", x.master(1, 1), 0);
        c.due("master of up, row 2", x.master(1, 2), NONE);
        // up is in upup and left out.
        c.due("master of up, upup", x.master(17, 0), 5);
        c.due("master of up, upup: 1", x.master(17, 1), 4);
        c.due("master of up, upup: 2", x.master(17, 2), NONE);
        // One note can always be shared.
        c.due("master of up, down", x.master(3, 0), 5);
        c.due("master of up, down: 1", x.master(3, 1), 0);
        c.due("master of up, down: 2", x.master(3, 2), 1);
        c.due("master of up, down, lone", x.master(11, 0), 5);
        c.due("master of a tune that is not", x.master(32, 0), NONE);
        c.due("master of -1", x.master(-1, 0), NONE);
        c.due("master of min", x.master(MIN, 0), NONE);
        c.due("master what 7", x.master(1, 7), NONE);
        c.due("master what -1", x.master(1, -1), NONE);
        c.due("master what 6", x.master(31, 6), NONE);
        StringBuilder s = new StringBuilder();
        for (int i = 0; i < 14; i++) {
            s.append("tune ").append((char) ('a' + i)).append(" of 0 1 ").append(i).append(" 1;");
        }
        TuneLocks y = Check.told(s.toString());
        c.due("six", y.master(63, 0), 7);
        c.due("six: 6", y.master(63, 6), 5);
        c.due("six of the last", y.master(63 << 8, 1), 8);
        c.due("seven", y.master(127, 0), -2);
        c.due("seven, a row", y.master(127, 3), -2);
        c.due("all", y.master((1 << 14) - 1, 0), -2);
        c.due("one that is not", y.master(1 << 14, 0), NONE);
        c.due("seven, for another what", y.master(127, 7), NONE);
        c.due("too many, and one that is not", y.master((1 << 15) - 1, 0), NONE);
    }

    private void masterRows() {
        // x: 1 2, y: 2 3, z: 3 1: each over the next by two notes; any turn of xyz is as short.
        TuneLocks x = Check.told("tune z of 0 1 3 1 4 1;tune y of 9 2 11 2 14 2;tune x of 20 9 21 9 23 9;");
        c.due("a ring", x.master(7, 0), 5);
        c.due("a ring: 1", x.master(7, 1), 0);
        c.due("a ring: 2", x.master(7, 2), 2);
        c.due("a ring: 3", x.master(7, 3), 1);
        // Alike in any key and pace: the greater number is left out.
        TuneLocks y = Check.told("tune a of 0 1 1 2;tune b of 5 3 6 6;tune c of 5 1 6 1;");
        c.due("alike", y.master(3, 0), 2);
        c.due("alike: 1", y.master(3, 1), 0);
        c.due("alike: 2", y.master(3, 2), NONE);
        c.due("alike but for the pace", y.master(6, 0), 3);
        // The step is shared, its pace is not: only one note lies over.
        TuneLocks z = Check.told("tune a of 0 1 2 1 3 1;tune b of 7 1 8 2 0 2;");
        c.due("pace in what lies over", z.master(3, 0), 5);
        // 3 2 1 only that way round.
        TuneLocks w = Check.told("tune a of 0 1 7 1 9 1;tune b of 0 1 5 1 12 1;");
        c.due("the later ahead", w.master(3, 0), 4);
        c.due("the later ahead: 1", w.master(3, 1), 1);
        c.due("the later ahead: 2", w.master(3, 2), 0);
    }

    private void rounds() {
        // Moments: 0 0 4 4 4 1.
        TuneLocks x = Check.told("tune a of 0 2 4 3 1 1;tune b of 5 1;tune c of 60 1 0 1;tune d of 0 9 1 9 0 9 1 9 0 9 1 9 "
                + "0 9 1 9 0 9 1 9 0 9 1 9;tune e of 0 1 13 1;");
        // d 1: 0 4 0 0 3: all sweet. d 2: 4 4 0 3. d 4: 4 1. d 5: 1.
        c.due("round(0, 1)", x.round(0, 1), 0);
        c.due("round(0, 4)", x.round(0, 4), 1);
        c.due("round(0, 5)", x.round(0, 5), 1);
        c.due("round(0, 6)", x.round(0, 6), 0);
        c.due("round(0, 99)", x.round(0, 99), 0);
        c.due("round(0, 100)", x.round(0, 100), NONE);
        c.due("round(0, 0)", x.round(0, 0), NONE);
        c.due("round(0, min)", x.round(0, MIN), NONE);
        c.due("round(-1, 1)", x.round(-1, 1), NONE);
        c.due("round(5, 1)", x.round(5, 1), NONE);
        c.due("good(0, 0)", x.good(0, 0), 1);
        c.due("good(0, 1)", x.good(0, 1), 0);
        c.due("good(0, 2)", x.good(0, 2), NONE);
        c.due("good(0, -1)", x.good(0, -1), NONE);
        c.due("good of one moment", x.good(1, 0), NONE);
        c.due("good of one moment", x.good(1, 1), NONE);
        c.due("good(5, 0)", x.good(5, 0), NONE);
        c.due("good(-1, 0)", x.good(-1, 0), NONE);
        c.due("60 lower is 0", x.round(2, 1), 0);
        c.due("13 is 1", x.round(4, 1), 1);
        c.due("good, though not sweet", x.good(4, 0), 1);
        c.due("good, though not sweet", x.good(4, 1), 1);
        // 108 moments; 18 later all are alike, 9 later none is.
        c.due("round(3, 18)", x.round(3, 18), 0);
        c.due("round(3, 9)", x.round(3, 9), 99);
        c.due("round(3, 99)", x.round(3, 99), 9);
        c.due("good(3, 0)", x.good(3, 0), 18);
        // First and last alike, all between them otherwise: only 99 later all is sweet.
        TuneLocks v = Check.told("sweet 0;tune a of 0 9 1 9 2 9 3 9 4 9 5 9 6 9 7 9 8 9 9 9 10 9 0 9;");
        c.due("good at 99", v.good(0, 0), 99);
        c.due("good at 99", v.good(0, 1), 0);
        // Told tones alone are sweet; 11 higher is not 1 higher.
        TuneLocks y = Check.told("sweet 1 011; tune a of 0 1 1 1; tune b of 11 1 0 1; tune c of 3 1 3 1;");
        c.due("sweet 1", y.round(0, 1), 0);
        c.due("sweet 11", y.round(1, 1), 0);
        c.due("0 is not sweet", y.round(2, 1), 1);
        TuneLocks z = Check.told("sweet 1; tune a of 0 1 1 1; tune b of 11 1 0 1;");
        c.due("up 1", z.round(0, 1), 0);
        c.due("down 11", z.round(1, 1), 1);
        // If it is not told: 0 3 4 7 8 9.
        for (int i = 0; i < 12; i++) {
            TuneLocks w = Check.told("tune a of 20 1 " + (20 + i) + " 1;tune b of 40 1 " + (40 - i) + " 1;");
            boolean sweet = i == 0 || i == 3 || i == 4 || i >= 7 && i <= 9;
            c.due("untold " + i, w.round(0, 1), sweet ? 0 : 1);
            c.due("untold -" + i, w.round(1, 1), sweet ? 0 : 1);
        }
    }

    private void deaf() {
        TuneLocks x = Check.told("tune a of 5 1 6 1 7 1;tune s of 12 1 12 1 12 1 13 2;tune t of 5 1 5 1;"
                + "tune u of 24 1 24 1 24 1;tune v of 1 1;tune w of 0 1 0 1;tune p of 5 1 7 1;");
        // 12 12 12 as 11 13 13 or 11 13 11 ..: at 0 steps 2 0 or 0 2: 2 off; at 1: 13 13 13 2, or 11 13 13:
        // 11 11 13: 0 0; 11 13 13: 2 0: 2 and the pace.
        c.due("deaf(0, 1, 0)", x.deaf(0, 1, 0), 2);
        // 13 as 12 or 14: at 1: 12 12 14: 0 2: 2 and out of pace 1; at 0: 0 0: 2.
        c.due("deaf(0, 1, 1)", x.deaf(0, 1, 1), 2);
        c.due("deaf, none there", x.deaf(0, 1, 7), 2);
        // 5 5 against 24 24 as 23 23 or 25 25.
        c.due("deaf alike", x.deaf(2, 3, 0), 0);
        // Each goes its own way: 23 25 is up 2.
        c.due("deaf apart", x.deaf(6, 3, 0), 0);
        c.due("not deaf", x.deaf(6, 3, 1), 2);
        // 0 is sung as -1 or 1.
        c.due("deaf at the bottom", x.deaf(6, 5, 0), 0);
        c.due("deaf for what must move", x.deaf(0, 0, 6), 2);
        c.due("deaf of one note", x.deaf(4, 0, 5), 0);
        c.due("deaf, longer", x.deaf(0, 2, 0), NONE);
        c.due("deaf tone 12", x.deaf(0, 0, 12), NONE);
        c.due("deaf tone -1", x.deaf(0, 0, -1), NONE);
        c.due("deaf no tune", x.deaf(7, 0, 0), NONE);
        c.due("deaf no song", x.deaf(0, 7, 0), NONE);
        c.due("deaf no song", x.deaf(0, -1, 0), NONE);
    }

    private void least() {
        TuneLocks x = Check.told(STEPS + "lock a near 0 opens in up;lock b near 0 opens notes > 2 and night;"
                + "lock c near 0 opens 0;lock d near 0 opens ends lone;lock e near 0 opens worn;");
        c.due("least(0)", x.least(0, false), 0);
        c.due("least(1, night)", x.least(1, true), 0);
        c.due("least(1, day)", x.least(1, false), NONE);
        c.due("least(2)", x.least(2, true), NONE);
        c.due("least(3)", x.least(3, true), 3);
        c.due("least(4)", x.least(4, true), NONE);
        c.due("least(5)", x.least(5, true), NONE);
        c.due("least(-1)", x.least(-1, true), NONE);
        TuneLocks y = Check.told("tune a of 1 1 2 1 3 1;tune b of 1 1 3 1;tune c of 1 1 2 1;lock l near 0 opens begins c;");
        c.due("least: fewest notes", y.least(0, false), 2);
    }

    private void singing() {
        TuneLocks x = Check.told("tune a of 0 1 1 1;tune b of 0 1;lock l near 0 opens in a;lock m near 0 opens notes > 2;"
                + "lock n near 0 opens night and ends b;");
        c.due("sing(60, 9)", x.sing(60, 9), 0);
        c.due("sing(61, 1)", x.sing(61, 1), NONE);
        c.due("sing(-1, 1)", x.sing(-1, 1), NONE);
        c.due("sing(0, 0)", x.sing(0, 0), NONE);
        c.due("sing(0, 10)", x.sing(0, 10), NONE);
        c.due("sing(max, max)", x.sing(MAX, MAX), NONE);
        c.due("one note", x.about(2), 1);
        c.due("sing(0, 1)", x.sing(0, 1), 0);
        c.due("sing(1, 1)", x.sing(1, 1), 3);
        c.due("open", x.lock(0, 0), 1);
        c.due("opened once", x.lock(0, 1), 1);
        c.due("sing again: it is open", x.sing(2, 1), 0);
        c.due("opened once", x.lock(0, 1), 1);
        x.night(true);
        c.due("at night", x.sing(3, 1), 4);
        c.due("not shut", x.shut(0), true);
        c.due("it opens again", x.sing(9, 1), 1);
        c.due("opened twice", x.lock(0, 1), 2);
        for (int i = 6; i < 40; i++) {
            c.due("sing", x.sing(5, 1), 0);
        }
        c.due("sing a 41st", x.sing(5, 1), NONE);
        c.due("40 notes", x.about(2), 40);
        TuneLocks y = Check.told("lock l near 0 opens 1;lock m near 0 opens notes - 1;");
        c.due("no tunes", y.sing(0, 1), 1);
        c.due("no tunes", y.sing(0, 1), 2);
    }

    private void songs() {
        TuneLocks x = Check.told("tune a of 10 1 12 2;tune b of 0 1 60 1;tune c of 1 1 1 1 1 1 1 1 1 1 1 1 1 1 1 1 1 1 1 1 1 1 1 1;"
                + "lock l near 0 opens notes = 1;lock m near 0 opens begins a;lock n near 0 opens notes = 3;");
        c.due("song(0, 48)", x.song(0, 48), 3);
        c.due("song(0, 49)", x.song(0, 49), NONE);
        c.due("song(0, -11)", x.song(0, -11), NONE);
        c.due("song(0, 61)", x.song(0, 61), NONE);
        c.due("song(0, -61)", x.song(0, -61), NONE);
        c.due("song(0, min)", x.song(0, MIN), NONE);
        c.due("song(1, 1)", x.song(1, 1), NONE);
        c.due("song(1, -1)", x.song(1, -1), NONE);
        c.due("song(3, 0)", x.song(3, 0), NONE);
        c.due("song(-1, 0)", x.song(-1, 0), NONE);
        c.due("two notes", x.about(2), 2);
        c.due("song(0, -10)", x.song(0, -10), 4);
        c.due("four notes", x.about(2), 4);
        c.due("song(1, 0)", x.song(1, 0), 0);
        c.due("song(2, 0)", x.song(2, 0), 0);
        c.due("song(2, 59)", x.song(2, 59), 0);
        c.due("30 notes", x.about(2), 30);
        c.due("song(2, 0) beyond 40", x.song(2, 0), NONE);
        c.due("30 notes", x.about(2), 30);
        for (int i = 0; i < 5; i++) {
            c.due("song(0, 0)", x.song(0, 0), 0);
        }
        c.due("40 notes", x.about(2), 40);
        c.due("song beyond 40", x.song(0, 0), NONE);
        c.due("doors stay", x.doors(0, false), 2);
        TuneLocks y = Check.told("tune a of 0 1;tune b of 60 1;");
        c.due("60 higher", y.song(0, 60), 0);
        c.due("60 lower", y.song(1, -60), 0);
        c.due("61 higher", y.song(0, 61), NONE);
        c.due("61 lower", y.song(1, -61), NONE);
    }

    private void silenceShutNight() {
        TuneLocks x = Check.told("tune a of 1 1;lock l near 0 opens in a;lock m near 0 opens night;");
        c.due("silence of none", x.silence(), 0);
        x.sing(1, 1);
        x.sing(1, 1);
        c.due("silence", x.silence(), 2);
        c.due("silence again", x.silence(), 0);
        c.due("the door stays open", x.lock(0, 0), 1);
        c.due("shut(1)", x.shut(1), false);
        c.due("shut(2)", x.shut(2), false);
        c.due("shut(-1)", x.shut(-1), false);
        c.due("shut(32)", x.shut(32), false);
        c.due("shut(0)", x.shut(0), true);
        c.due("shut(0) again", x.shut(0), false);
        c.due("lock(0, 0)", x.lock(0, 0), 0);
        c.due("day is day", x.night(false), false);
        c.due("night", x.night(true), true);
        c.due("night is night", x.night(true), false);
        c.due("sing at night", x.sing(1, 1), 3);
        c.due("day", x.night(false), true);
        c.due("the door stays open", x.lock(1, 0), 1);
        c.due("lock(0, 3)", x.lock(0, 3), NONE);
        c.due("lock(0, -1)", x.lock(0, -1), NONE);
        c.due("lock(2, 0)", x.lock(2, 0), NONE);
        c.due("lock(-1, 1)", x.lock(-1, 1), NONE);
    }

    private void wear() {
        TuneLocks x = Check.told("tune a of 0 1 1 1;tune b of 0 1 3 1;lock l near 1 opens in a or worn < 3;"
                + "lock m near 20 opens 1;lock n near 19 opens 1;");
        for (int i = 1; i <= 3; i++) {
            c.due("opens", x.sing(0, 1) & 1, 1);
            c.due("shut", x.shut(0), true);
            c.due("worn", x.lock(0, 1), i);
            c.due("near", x.lock(0, 2), i == 3 ? 2 : 1);
        }
        // Steps 3 and 1: off by 2, as near as it is now, not as it is told.
        c.due("worn: doors", x.doors(1, false) & 1, 1);
        c.due("worn: asked", x.asked(0, 1, false), 1);
        c.due("worn: least", x.least(0, false), 0);
        for (int i = 1; i < 8; i++) {
            x.shut(1);
            x.shut(2);
            x.sing(0, 1);
        }
        c.due("worn 8", x.lock(2, 1), 8);
        c.due("20 at most", x.lock(1, 2), 20);
        c.due("20 at most", x.lock(2, 2), 20);
        // The thief's locks are never worn.
        c.due("left", x.watch(0, false, true), 0);
        c.due("left", x.left(0), 3);
        TuneLocks y = Check.told("tune a of 0 1 1 1;tune b of 0 1 3 1;lock l near 1 opens in a or notes < 2;"
                + "lock m near 0 opens worn;");
        for (int i = 0; i < 3; i++) {
            y.sing(0, 1);
            y.shut(0);
            y.silence();
        }
        c.due("worn: doors", y.doors(1, false), 1);
        y.watch(0, false, true);
        c.due("never worn: left", y.left(0), 1);
        c.due("never worn: next", y.next(2, -1), 1);
        c.due("never worn: next", y.next(0, -1), 0);
    }

    private void heard() {
        TuneLocks x = Check.told(STEPS);
        c.due("heard of silence", x.heard(3, 0), NONE);
        x.song(4, 0);
        c.due("heard(0, 0)", x.heard(0, 0), 1);
        c.due("heard(0, 1)", x.heard(0, 1), 0);
        c.due("heard(0, 2)", x.heard(0, 2), NONE);
        c.due("heard(2, 1)", x.heard(2, 1), 3);
        c.due("heard(2, 2)", x.heard(2, 2), 1);
        c.due("heard(0, 3)", x.heard(0, 3), NONE);
        c.due("heard(0, -1)", x.heard(0, -1), NONE);
        c.due("heard(5, 0)", x.heard(5, 0), NONE);
        c.due("heard(-1, 0)", x.heard(-1, 0), NONE);
        x.silence();
        x.sing(0, 1);
        c.due("heard, longer", x.heard(0, 0), NONE);
        c.due("heard one", x.heard(3, 0), 0);
    }

    private void watches() {
        TuneLocks x = Check.told("tune a of 1 1;tune b of 1 1 2 1;tune c of 1 1 2 1 3 1;"
                + "lock l near 0 opens notes > 1;lock m near 0 opens night or notes = 3;");
        c.due("left at first", x.left(0), 7);
        c.due("watch", x.watch(0, false, true), 0);
        c.due("left", x.left(0), 6);
        c.due("left before", x.left(-1), 7);
        c.due("later", x.later(5), 5);
        c.due("watch", x.watch(1, false, false), 1);
        c.due("left at 5", x.left(5), 2);
        c.due("left at 4", x.left(4), 6);
        c.due("left at max", x.left(MAX), 2);
        c.due("left at min", x.left(MIN), 7);
        c.due("untell(0)", x.untell(0), true);
        c.due("left at 5", x.left(5), 3);
        c.due("left at 4", x.left(4), 6);
        c.due("untell(0)", x.untell(0), false);
        c.due("untell(2)", x.untell(2), false);
        c.due("untell(-1)", x.untell(-1), false);
        c.due("untold ones are there still", x.about(4), 2);
        x.later(1);
        c.due("untell(1)", x.untell(1), true);
        c.due("left at 6", x.left(6), 7);
        c.due("left at 5", x.left(5), 3);
        c.due("watch at night", x.watch(1, true, false), 2);
        c.due("none is left", x.left(6), 0);
        c.due("next of none", x.next(0, 6), NONE);
        c.due("told and untold at once", x.untell(2), true);
        c.due("left at 6", x.left(6), 7);
        c.due("watch no lock", x.watch(2, false, true), NONE);
        c.due("watch no lock", x.watch(-1, false, true), NONE);
        for (int i = 3; i < 30; i++) {
            c.due("watch", x.watch(0, true, false), i);
        }
        c.due("a 31st", x.watch(0, true, false), NONE);
        c.due("30", x.about(4), 30);
        c.due("left", x.left(6), 1);
    }

    private void times() {
        TuneLocks x = new TuneLocks();
        c.due("later(0)", x.later(0), 0);
        c.due("later(1001)", x.later(1001), NONE);
        c.due("later(-1)", x.later(-1), NONE);
        c.due("later(max)", x.later(MAX), NONE);
        c.due("later(min)", x.later(MIN), NONE);
        for (int i = 1; i <= 100; i++) {
            c.due("later(1000)", x.later(1000), i * 1000);
        }
        c.due("later(1)", x.later(1), NONE);
        c.due("later(0)", x.later(0), 100000);
    }

    private void next() {
        TuneLocks x = Check.told("tune a of 1 1;tune b of 1 1 2 1;tune c of 1 1 2 1 3 1;tune d of 1 1 2 1 3 1 4 1;"
                + "lock l near 0 opens notes > 1;lock m near 0 opens notes > 2 and night;lock n near 0 opens notes < 3;");
        // l: 3 and 1; m by day: 0 and 4, at night 2 and 2; n: 2 and 2.
        c.due("next lock", x.next(0, 0), 1);
        c.due("next night", x.next(1, 0), 1);
        c.due("next number", x.next(2, 0), 2);
        c.due("next(3)", x.next(3, 0), NONE);
        c.due("next(-1)", x.next(-1, 0), NONE);
        x.watch(1, true, false);
        c.due("next lock", x.next(0, 0), 0);
        c.due("day ahead of night", x.next(1, 0), 0);
        c.due("next number", x.next(2, 0), 1);
        c.due("as known ahead", x.next(0, -1), 1);
        c.due("one left, no door tells more", x.watch(0, false, true), 1);
        c.due("left", x.left(0), 2);
        c.due("next lock", x.next(0, 0), 0);
        c.due("next number", x.next(2, 0), 1);
        c.due("without locks", Check.told("tune a of 1 1;").next(0, 0), NONE);
        c.due("without locks", Check.told("tune a of 1 1;").next(2, 0), NONE);
        c.due("without tunes", Check.told("lock l near 0 opens 1;").next(0, 0), NONE);
    }

    private void images() {
        TuneLocks x = Check.told("tune a of 1 1;tune b of 0 1 2 1;lock l near 0 opens notes > 1;");
        c.due("back of nothing", x.back(0), NONE);
        c.due("image(3)", x.image(3), NONE);
        c.due("image(-1)", x.image(-1), NONE);
        c.due("back(3)", x.back(3), NONE);
        c.due("back(-1)", x.back(-1), NONE);
        c.due("image of nothing sung", x.image(2), 0);
        x.song(1, 4);
        x.night(true);
        c.due("image(0)", x.image(0), 2);
        x.shut(0);
        x.sing(9, 9);
        x.night(false);
        x.watch(0, false, true);
        x.later(3);
        c.due("worn", x.lock(0, 1), 2);
        c.due("back(1)", x.back(1), NONE);
        c.due("notes stay", x.about(2), 3);
        c.due("back(0)", x.back(0), 2);
        c.due("voice", x.heard(1, 1), 0);
        c.due("night", x.about(3), 1);
        c.due("worn", x.lock(0, 1), 1);
        c.due("open", x.lock(0, 0), 1);
        c.due("watches stay", x.about(4), 1);
        c.due("the time stays", x.about(5), 3);
        x.silence();
        x.shut(0);
        c.due("back(0) once more", x.back(0), 2);
        c.due("open", x.lock(0, 0), 1);
        c.due("back(2)", x.back(2), 0);
        c.due("day", x.about(3), 0);
        c.due("shut", x.lock(0, 0), 0);
        c.due("not worn", x.lock(0, 1), 0);
        x.sing(1, 1);
        c.due("image over another", x.image(0), 1);
        x.silence();
        c.due("back(0)", x.back(0), 1);
    }

    private void about() {
        TuneLocks x = Check.told(STEPS + "lock l near 0 opens (1 + in up) and not (night);");
        x.sing(1, 1);
        x.night(true);
        x.watch(0, true, true);
        x.watch(0, true, true);
        x.later(11);
        Check.put(x, "abc");
        c.due("about(0)", x.about(0), 5);
        c.due("about(1)", x.about(1), 1);
        c.due("about(2)", x.about(2), 1);
        c.due("about(3)", x.about(3), 1);
        c.due("about(4)", x.about(4), 2);
        c.due("about(5)", x.about(5), 11);
        c.due("about(6)", x.about(6), 3);
        c.due("about(7)", x.about(7), 5);
        c.due("about(8)", x.about(8), NONE);
        c.due("about(-1)", x.about(-1), NONE);
    }
}
