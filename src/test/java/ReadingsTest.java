/** Where a sentence of the document can be read in more than one way: what was taken as its plainest meaning. */
public final class ReadingsTest {
    private static final int NONE = TuneLocks.NONE;
    private static final String LOCK = "lock l near 0 opens ";

    private final Check c = new Check();

    public static void main(String[] args) {
        ReadingsTest t = new ReadingsTest();
        t.placeOfNoToken();
        t.tooLongIsNoToken();
        t.lowestAndHighestForTheDeaf();
        t.noneAheadOfTooMany();
        t.bracketsAreUnits();
        t.tapeBehindAFault();
        t.untoldWatchesAreWatches();
        t.higherIsNeverBelowZero();
        t.tooManyIsNotReadOn();
        t.c.finish();
    }

    /** "no letter directly behind an N", "1 no TOKEN": what has one isn't an N, so at its first byte no TOKEN begins. */
    private void placeOfNoToken() {
        c.bad(1, LOCK + "^12and 1;");
        c.bad(1, LOCK + "1 + ^9999x;");
        c.bad(1, "tune a of 1 ^1tune b of 1 1;");
        c.bad(1, "tune ^1a of 1 1;");
    }

    /**
     * "words (a .. z, 8 at most), N (1 to 4 digits)", "each is as long as can be": letters or digits in a row are not cut
     * into several TOKENS, so nine letters, five digits are none.
     */
    private void tooLongIsNoToken() {
        c.bad(1, "tune ^abcdefghof 1 1;");
        c.bad(1, "tune a of ^00011;");
        c.bad(1, LOCK + "^99991;");
        c.bad(1, LOCK + "^notnotnot 1;");
        c.good("tune abcdefgh of 1 1;", 1, 0);
    }

    /** "is sung one lower or one higher, as it may be": 0 .. 60 bounds what is told and sung in earnest, not this. */
    private void lowestAndHighestForTheDeaf() {
        TuneLocks x = Check.told("tune two of 5 1 7 1;tune low of 0 1 0 1;tune high of 60 1 60 1;");
        c.due("-1 and 1", x.deaf(0, 1, 0), 0);
        c.due("59 and 61", x.deaf(0, 2, 0), 0);
    }

    /** "NONE if one can't be, or for another what; -2 with more than 6": in the order of the sentence. */
    private void noneAheadOfTooMany() {
        StringBuilder s = new StringBuilder();
        for (int i = 0; i < 8; i++) {
            s.append("tune ").append((char) ('a' + i)).append(" of 0 1 ").append(i).append(" 1;");
        }
        TuneLocks x = Check.told(s.toString());
        c.due("seven", x.master(127, 0), -2);
        c.due("eight", x.master(255, 6), -2);
        c.due("seven, what 7", x.master(127, 7), NONE);
        c.due("seven, what -1", x.master(127, -1), NONE);
        c.due("seven, and one that can't be", x.master(127 | 256, 0), NONE);
        c.due("six, and one that can't be", x.master(63 | 256, 0), NONE);
        c.due("all 32", x.master(-1, 0), NONE);
    }

    /** "unit = N | .. | ( e )", "60 units in all", "at its first TOKEN": ( e ) is one, counted where it begins. */
    private void bracketsAreUnits() {
        c.due("((1))", c.good(LOCK + "((1));", 0, 1).about(7), 3);
        c.due("not (1 + (2))", c.good(LOCK + "not (1 + (2));", 0, 1).about(7), 4);
        c.bad(2, LOCK + "(1" + "+1".repeat(58) + "+^1);");
        c.bad(2, LOCK + "1" + "+1".repeat(58) + "+(^1);");
        c.bad(2, LOCK + "1" + "+1".repeat(59) + "+^(1);");
    }

    /** "The TAPE (empty then) is the TOWN ..; NONE: a FAULT (all stays)": the TAPE as well. */
    private void tapeBehindAFault() {
        TuneLocks x = new TuneLocks();
        Check.put(x, "tune a of 1 1");
        c.due("a fault", x.town(), NONE);
        c.due("the tape is there", x.about(6), 13);
        Check.put(x, ";");
        c.due("and is gone on with", x.town(), 0);
        c.due("a tune", x.about(0), 1);
    }

    /** "WATCHES, 30 at most, are TOLD .., UNTOLD at a later one or the same": what is known at k needs those, too. */
    private void untoldWatchesAreWatches() {
        TuneLocks x = Check.told("tune a of 1 1;lock l near 0 opens 1;");
        for (int i = 0; i < 30; i++) {
            x.watch(0, false, true);
            x.untell(i);
        }
        c.due("30", x.about(4), 30);
        c.due("a 31st", x.watch(0, false, true), NONE);
    }

    /** "by how much one of both is higher than the other, modulo 12": 11 lower is 11, not 1. */
    private void higherIsNeverBelowZero() {
        TuneLocks x = Check.told("sweet 1;tune down of 11 1 0 1;tune up of 0 1 11 1;tune one of 1 1 0 1;");
        c.due("11 lower", x.round(0, 1), 1);
        c.due("11 higher", x.round(1, 1), 1);
        c.due("1 lower", x.round(2, 1), 0);
    }

    /** "one of a sort too many ..: at the line's first word": whether the rest of it could stand there is not asked. */
    private void tooManyIsNotReadOn() {
        String tunes = "";
        for (int i = 0; i < 14; i++) {
            tunes += "tune " + (char) ('a' + i) + " of 1 1;";
        }
        c.bad(2, tunes + "^tune");
        c.bad(2, "sweet 1;^sweet");
        c.bad(2, LOCK + "not not not not not not not ^not;");
        c.bad(2, LOCK + "(((((((^();");
    }
}
