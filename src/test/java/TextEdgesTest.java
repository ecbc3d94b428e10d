/** "Terms", sentence by sentence: of each limit of a TOWN's text the last that can be and the first that can't. */
public final class TextEdgesTest {
    private static final String[] FOR_THEMSELVES = {"tune", "of", "lock", "near", "opens", "sweet", "or", "and", "not",
        "in", "begins", "ends", "night", "notes", "worn"};
    private static final String SIGNS = ";()<>=+-";
    private static final String LOCK = "lock l near 0 opens ";

    private final Check c = new Check();

    public static void main(String[] args) {
        TextEdgesTest t = new TextEdgesTest();
        t.bytesAtMost();
        t.anyByteAlone();
        t.anyByteBehindAWord();
        t.anyByteBehindAnN();
        t.lettersOfAWord();
        t.digitsOfAnN();
        t.blanks();
        t.asLongAsCanBe();
        t.noLetterBehindAnN();
        t.namesAndWords();
        t.numberOfTunes();
        t.numberOfNotes();
        t.highAndLong();
        t.numberOfLocks();
        t.nearOfALock();
        t.toldAhead();
        t.numberedAsTold();
        t.tonesOfSweet();
        t.sweetOnce();
        t.sweetUntold();
        t.unitsInAll();
        t.unitsOfBrackets();
        t.withinOthers();
        t.withinOthersMixed();
        t.namesToldAlready();
        t.firstByPlace();
        t.leastAtOnePlace();
        t.placeOfTheEnd();
        t.eachTextAnew();
        t.textAfterText();
        t.linesCutOff();
        t.c.finish();
    }

    // ---- texts with so many of a sort

    private static String tunes(int n) {
        StringBuilder s = new StringBuilder();
        for (int i = 0; i < n; i++) {
            s.append("tune ").append((char) ('a' + i)).append(" of 1 1;");
        }
        return s.toString();
    }

    private static String locks(int n) {
        StringBuilder s = new StringBuilder();
        for (int i = 0; i < n; i++) {
            s.append("lock ").append((char) ('a' + i)).append(" near 0 opens 1;");
        }
        return s.toString();
    }

    private static String notes(int n) {
        return " 1 1".repeat(n);
    }

    private static String units(int n) {
        return "1" + "+1".repeat(n - 1);
    }

    // ---- the text and its TOKENS

    /** "A TOWN is a text of at most 1,700 bytes (empty at first)": the 1,700th is read, a 1,701st never comes. */
    private void bytesAtMost() {
        String almost = "tune a of 1 1" + " ".repeat(1686);
        c.good("", 0, 0);
        c.good(almost + ";", 1, 0);
        c.bad(2, almost + " ^");
        c.bad(1, almost + "^*");
        TuneLocks x = new TuneLocks();
        Check.put(x, almost + ";");
        c.due("1,700 bytes", x.about(6), 1700);
        c.due("a 1,701st", x.feed(-1, -1, -1, -1, -1), -1);
        c.due("1,700 bytes still", x.about(6), 1700);
        c.due("and the same", x.town(), 0);
        c.due("and the same", x.about(0), 1);
    }

    /** "TOKENS: words (a .. z), N (digits), signs; blanks (32, 10)": all other bytes are no TOKEN. */
    private void anyByteAlone() {
        for (int b = 0; b < 256; b++) {
            String text = String.valueOf((char) b);
            if (b == 32 || b == 10) {
                c.good(text, 0, 0);
            } else {
                c.bad(isOfAToken(b) ? 2 : 1, 0, text);
                c.bad(isOfAToken(b) ? 2 : 1, 8, "sweet 1;" + text);
            }
        }
    }

    private static boolean isOfAToken(int b) {
        return isLetter(b) || isDigit(b) || SIGNS.indexOf(b) >= 0;
    }

    private static boolean isLetter(int b) {
        return b >= 'a' && b <= 'z';
    }

    private static boolean isDigit(int b) {
        return b >= '0' && b <= '9';
    }

    private void anyByteBehindAWord() {
        for (int b = 0; b < 256; b++) {
            String text = "tune" + (char) b + "a of 1 1;";
            if (b == 32 || b == 10) {
                c.good(text, 1, 0);
            } else if (isLetter(b)) {
                c.bad(2, 0, text);
            } else {
                // A digit has the letter a directly behind it.
                c.bad(SIGNS.indexOf(b) >= 0 ? 2 : 1, 4, text);
            }
        }
    }

    private void anyByteBehindAnN() {
        for (int b = 0; b < 256; b++) {
            String text = LOCK + "1" + (char) b + "1;";
            if (isDigit(b) || SIGNS.indexOf(b) > 2) {
                c.good(text, 0, 1);
            } else if (isLetter(b)) {
                c.bad(1, 20, text);
            } else if (b == ';' || b == 32 || b == 10) {
                c.bad(2, 22, text);
            } else {
                c.bad(SIGNS.indexOf(b) >= 0 ? 2 : 1, 21, text);
            }
        }
    }

    /** "words (a .. z, 8 at most)". */
    private void lettersOfAWord() {
        c.good("tune a of 1 1;" + LOCK + "in a;", 1, 1);
        c.good("tune abcdefgh of 1 1;" + LOCK + "in abcdefgh;", 1, 1);
        c.bad(1, "tune ^abcdefghi of 1 1;");
        c.good("lock abcdefgh near 0 opens 1;", 0, 1);
        c.bad(1, "lock ^abcdefghi near 0 opens 1;");
        c.bad(5, "tune abcdefgh of 1 1;" + LOCK + "in ^abcdefgi;");
        c.bad(1, "tune abcdefgh of 1 1;" + LOCK + "in ^abcdefghi;");
        c.good("tune abcdefgh of 1 1;tune abcdefgi of 1 1;tune bbcdefgh of 1 1;tune abcdefg of 1 1;", 4, 0);
        c.good("tune zzzzzzzz of 1 1;tune zzzzzzz of 1 1;tune aaaaaaaa of 1 1;tune aaaaaaa of 1 1;", 4, 0);
        c.bad(2, "^zzzzzzzz");
        c.bad(1, "^zzzzzzzzz");
        c.bad(1, "lock l near 0 ^opensopens 1;");
    }

    /** "N (1 to 4 digits)". */
    private void digitsOfAnN() {
        c.due("9999", c.good("tune a of 0 1;" + LOCK + "9999;", 1, 1).asked(0, 0, false), 9999);
        c.due("0000", c.good("tune a of 0 1;" + LOCK + "0000;", 1, 1).asked(0, 0, false), 0);
        c.due("0100", c.good("tune a of 0 1;" + LOCK + "0100;", 1, 1).asked(0, 0, false), 100);
        c.due("7", c.good("tune a of 0 1;" + LOCK + "7;", 1, 1).asked(0, 0, false), 7);
        c.bad(1, LOCK + "^10000;");
        c.bad(1, LOCK + "^00000;");
        c.bad(1, LOCK + "^99999999999999999999;");
        c.good("tune a of 0060 0009;", 1, 0);
        c.bad(1, "tune a of ^00060 9;");
        c.bad(1, "tune a of 60 ^00009;");
        c.good("lock l near 0020 opens 1;", 0, 1);
        c.bad(1, "lock l near ^00020 opens 1;");
        c.good("sweet 0011;", 0, 0);
        c.bad(1, "sweet ^00011;");
    }

    /** "blanks (32, 10) part them or not". */
    private void blanks() {
        c.good("tune a of1 1;lock l near0 opens(1)and not(0)or 1<2;sweet0;", 1, 1);
        c.good("\n \n tune \n a\n\nof  1\n1 ;\n lock l near 0 opens ( 1 ) ; \n", 1, 1);
        c.good(LOCK + "1+1-1;", 0, 1);
        c.good(LOCK + "1 + 1 - 1 ;", 0, 1);
        c.bad(1, "tune^\ta of 1 1;");
        c.bad(1, "tune^\ra of 1 1;");
        c.bad(1, "tune a of 1 1;^\r\n");
        c.bad(1, "tune^\u00a0a of 1 1;");
        c.bad(2, LOCK + "^no t 1;");
        c.bad(2, LOCK + "1 ^1;");
    }

    /** "each is as long as can be". */
    private void asLongAsCanBe() {
        c.bad(2, "^tunea of 1 1;");
        c.good("tune often of 1 1;", 1, 0);
        c.good("tune nota of 1 1;" + LOCK + "in nota;", 1, 1);
        c.bad(2, LOCK + "^notnight;");
        c.good(LOCK + "not night;", 0, 1);
        c.bad(2, "tune a of 11^;");
        c.good("tune a of 1 1;", 1, 0);
        c.bad(4, "tune a of 1 ^11;");
        c.good("tune a of 1 1 1 1;", 1, 0);
    }

    /** "no letter directly behind an N". */
    private void noLetterBehindAnN() {
        c.bad(1, "lock l near ^0opens 1;");
        c.good("lock l near 0 opens 1;", 0, 1);
        c.good("lock l near 0\nopens 1;", 0, 1);
        c.bad(1, LOCK + "^1or 1;");
        c.good(LOCK + "(1)or 1;", 0, 1);
        c.bad(1, "tune a of 1 1 ^1a");
        c.bad(1, "tune a of 1 ^1z;");
        c.bad(1, "sweet ^1a;");
        // Directly behind: a blank or a sign parts them; a great letter is no letter, and no TOKEN itself.
        c.bad(2, "sweet 1 ^a;");
        c.bad(1, "sweet 1^A;");
        c.bad(2, "sweet 1;^a;");
        c.bad(1, LOCK + "1;^9x");
    }

    /** "Words that stand for themselves here are no NAMES"; those that name parts of the grammar are. */
    private void namesAndWords() {
        for (String w : FOR_THEMSELVES) {
            c.bad(2, "tune ^" + w + " of 1 1;");
            c.bad(2, "lock ^" + w + " near 1 opens 1;");
            c.bad(2, LOCK + "in ^" + w + ";");
            c.bad(2, LOCK + "begins ^" + w + ";");
            c.bad(2, LOCK + "ends ^" + w + ";");
            c.good("tune " + w + "s of 1 1;lock " + w + "s near 0 opens in " + w + "s;", 1, 1);
        }
        for (String w : new String[] {"town", "line", "e", "both", "one", "sum", "unit", "name", "n", "voice", "day", "a"}) {
            c.good("tune " + w + " of 1 1;lock " + w + " near 0 opens in " + w + ";", 1, 1);
        }
    }

    // ---- lines

    /** "At most 14 TUNES"; "one of a sort too many: at the line's first word". */
    private void numberOfTunes() {
        c.good(tunes(13), 13, 0);
        c.good(tunes(14), 14, 0);
        c.bad(2, tunes(14) + "^tune o of 1 1;");
        c.bad(2, tunes(14) + locks(2) + "\n ^tune o of 1 1;");
        c.bad(2, tunes(14) + "^tune");
        c.good(tunes(14) + locks(8) + "sweet 1;", 14, 8);
        TuneLocks x = Check.told(tunes(14));
        c.due("the 14th", x.notes(13), 1);
        c.due("the 15th", x.notes(14), -1);
    }

    /** "each of 1 to 12 NOTES"; "a 13th NOTE: there". */
    private void numberOfNotes() {
        c.bad(2, "tune a of^;");
        c.bad(2, tunes(1) + "tune b of^;");
        c.bad(2, tunes(1) + "tune b of 60 9 ^tune c of 1 1;");
        c.bad(2, "tune a of 1^;");
        c.due("1 note", c.good("tune a of" + notes(1) + ";", 1, 0).notes(0), 1);
        c.bad(2, "tune a of 1 1 1^;");
        c.due("12 notes", c.good("tune a of" + notes(12) + ";", 1, 0).notes(0), 12);
        c.bad(2, "tune a of" + notes(12) + " ^1 1;");
        c.bad(2, "tune a of" + notes(12) + " ^1;");
        c.bad(2, "tune a of" + notes(11) + " 1^;");
    }

    /** "NOTES (how high, 0 .. 60, how long, 1 .. 9)". */
    private void highAndLong() {
        for (int high = 0; high <= 60; high++) {
            c.due("high " + high, Check.told("tune a of 0 1 " + high + " 1;").step(0, 0), high);
        }
        c.bad(4, "tune a of 0 1 ^61 1;");
        c.bad(4, "tune a of ^9999 1;");
        c.bad(2, "tune a of ^-1 1;");
        c.bad(4, "tune a of 0 ^0;");
        for (int length = 1; length <= 9; length++) {
            c.due("long " + length, Check.told("tune a of 1 " + length + ";").good(0, 0), length == 1 ? -1 : 1);
        }
        c.bad(4, "tune a of 0 ^10;");
        c.bad(4, "tune a of 0 ^0000;");
        c.bad(4, "tune a of 0 1 60 ^9999;");
    }

    /** "8 LOCKS". */
    private void numberOfLocks() {
        c.good(locks(7), 0, 7);
        c.good(locks(8), 0, 8);
        c.bad(2, locks(8) + "^lock i near 0 opens 1;");
        c.bad(2, locks(8) + tunes(1) + " ^lock i near 99 opens *");
        c.bad(2, locks(8) + "^lock");
        TuneLocks x = Check.told(locks(8));
        c.due("the 8th", x.lock(7, 2), 0);
        c.due("the 9th", x.lock(8, 2), -1);
    }

    /** "near 0 .. 20". */
    private void nearOfALock() {
        for (int near = 0; near <= 20; near++) {
            c.due("near " + near, Check.told("lock l near " + near + " opens 1;").lock(0, 2), near);
        }
        c.bad(4, "lock l near ^21 opens 1;");
        c.bad(4, "lock l near ^9999 opens 1;");
        c.bad(2, "lock l near ^-1 opens 1;");
    }

    /** "e's NAMES are TUNES told ahead"; "5 a NAME that no TUNE has". */
    private void toldAhead() {
        for (String word : new String[] {"in", "begins", "ends"}) {
            c.good("tune a of 1 1;" + LOCK + word + " a;", 1, 1);
            c.bad(5, LOCK + word + " ^a;tune a of 1 1;");
            c.bad(5, "lock a near 0 opens 1;" + LOCK + word + " ^a;");
            c.bad(5, "lock a near 0 opens " + word + " ^a;");
            c.bad(5, "tune a of 1 1;" + LOCK + word + " a and " + word + " ^b;");
            c.bad(5, "tune ab of 1 1;tune b of 1 1;" + LOCK + word + " ^a;");
        }
    }

    /** "numbered as told". */
    private void numberedAsTold() {
        TuneLocks x = Check.told("lock z near 3 opens 1;tune z of 1 1;sweet 1;lock a near 5 opens in z;tune a of 1 1 2 1;");
        c.due("the first tune", x.notes(0), 1);
        c.due("the second tune", x.notes(1), 2);
        c.due("the first lock", x.lock(0, 2), 3);
        c.due("the second lock", x.lock(1, 2), 5);
    }

    /** "sweet (1 to 12 of 0 .. 11)"; "a 13th N of sweet: there". */
    private void tonesOfSweet() {
        c.bad(2, "sweet^;");
        c.bad(2, tunes(1) + "sweet^;");
        for (int tone = 0; tone < 12; tone++) {
            TuneLocks x = Check.told("sweet " + tone + ";tune a of 0 1 " + tone + " 1;tune b of 0 1 " + (tone + 1) + " 1;");
            c.due("sweet " + tone, x.round(0, 1), 0);
            c.due("not sweet " + (tone + 1), x.round(1, 1), 1);
        }
        c.bad(4, "sweet ^12;");
        c.bad(4, "sweet 11 ^12;");
        c.good("sweet 0 1 2 3 4 5 6 7 8 9 10 11;", 0, 0);
        c.good("sweet 11 10 9 8 7 6 5 4 3 2 1 0;", 0, 0);
        c.bad(2, "sweet 0 1 2 3 4 5 6 7 8 9 10 11 ^0;");
        c.bad(2, "sweet 0 1 2 3 4 5 6 7 8 9 10 11 ^12;");
        for (int tone = 0; tone < 12; tone++) {
            c.bad(3, "sweet " + tone + " ^" + tone + ";");
        }
        c.bad(3, "sweet 1 2 3 ^001;");
    }

    /** "sweet .. once"; "sweet a second time: at the line's first word". */
    private void sweetOnce() {
        c.good("sweet 1;" + tunes(1), 1, 0);
        c.bad(2, "sweet 1;^sweet 2;");
        c.bad(2, "sweet 1;" + tunes(1) + locks(1) + "^sweet 1;");
        c.bad(2, "sweet 1;\n^sweet *");
        c.bad(2, "sweet 1;^sweet");
    }

    /** "0 3 4 7 8 9, if it is not told". */
    private void sweetUntold() {
        String all = "";
        for (int i = 0; i < 12; i++) {
            all += "tune " + (char) ('a' + i) + " of 20 1 " + (20 + i) + " 1;";
        }
        TuneLocks untold = Check.told(all);
        TuneLocks told = Check.told(all + "sweet 1;");
        for (int i = 0; i < 12; i++) {
            boolean sweet = i == 0 || i == 3 || i == 4 || i == 7 || i == 8 || i == 9;
            c.due("untold " + i, untold.round(i, 1), sweet ? 0 : 1);
            c.due("told " + i, told.round(i, 1), i == 1 ? 0 : 1);
        }
    }

    // ---- units

    /** "60 units in all"; "a 61st unit: at its first TOKEN". */
    private void unitsInAll() {
        c.due("60 of one lock", c.good(LOCK + units(60) + ";", 0, 1).about(7), 60);
        c.bad(2, LOCK + units(60) + "+^1;");
        c.bad(2, LOCK + units(60) + " or not ^1;");
        c.due("30 and 30", c.good(LOCK + units(30) + ";lock m near 0 opens " + units(30) + ";", 0, 2).about(7), 60);
        c.bad(2, LOCK + units(30) + ";lock m near 0 opens " + units(30) + "+^1;");
        c.bad(2, LOCK + units(60) + ";lock m near 0 opens ^1;");
        for (String unit : new String[] {"in a", "begins a", "ends a", "night", "notes", "worn", "7"}) {
            c.due("60th " + unit, c.good("tune a of 1 1;" + LOCK + units(59) + "-" + unit + ";", 1, 1).about(7), 60);
            c.bad(2, "tune a of 1 1;" + LOCK + units(60) + "-^" + unit + ";");
        }
        // Relations, and, or, not are no units.
        c.due("no units", c.good(LOCK + "not 1 and not 1 or 1 < 1;", 0, 1).about(7), 4);
        // A 61st is told by its first TOKEN, not by the NAME behind it.
        c.bad(2, LOCK + units(60) + "+^in b;");
        c.bad(5, LOCK + units(59) + "+in ^b;");
    }

    /** "unit = .. | ( e )": such a unit is one itself, and those within it are behind it. */
    private void unitsOfBrackets() {
        c.due("(1)", c.good(LOCK + "(1);", 0, 1).about(7), 2);
        c.due("((1))", c.good(LOCK + "((1));", 0, 1).about(7), 3);
        c.due("(59)", c.good(LOCK + "(" + units(59) + ");", 0, 1).about(7), 60);
        c.bad(2, LOCK + "(" + units(59) + "+^1);");
        c.bad(2, LOCK + "(" + units(59) + ")+^1;");
        c.due("58+(1)", c.good(LOCK + units(58) + "+(1);", 0, 1).about(7), 60);
        c.bad(2, LOCK + units(59) + "+(^1);");
        c.bad(2, LOCK + units(60) + "+^(1);");
    }

    /** "a unit ( e ), or a one behind not, within 6 others at most"; "what is within 7 others: at its first TOKEN, or the not". */
    private void withinOthers() {
        for (int n = 1; n <= 7; n++) {
            TuneLocks x = c.good("tune a of 1 1;" + LOCK + "(".repeat(n) + "5" + ")".repeat(n) + ";", 1, 1);
            c.due(n + " of (", x.asked(0, 0, false), 5);
            TuneLocks y = c.good("tune a of 1 1;" + LOCK + "not ".repeat(n) + "5;", 1, 1);
            c.due(n + " of not", y.asked(0, 0, false), n % 2 == 0 ? 1 : 0);
        }
        c.bad(2, LOCK + "(((((((^(5))))))));");
        c.bad(2, LOCK + "not not not not not not not ^not 5;");
        c.bad(2, LOCK + "(((((((^((5)))))))));");
        // Those that stand beside one another are not within one another.
        c.good(LOCK + "(((((((1))))))) + (((((((1))))))) and (((((((1)))))));", 0, 1);
        c.good(LOCK + "not not not not not not not 1 or not not not not not not not 1;", 0, 1);
        c.bad(2, LOCK + "(((((((1))))))) + (((((((1 + ^(1))))))));");
        c.bad(2, LOCK + "1 or not not not not not not not ^not 1;");
        // Whether what is within too many others is whole is not asked any more.
        c.bad(2, LOCK + "(((((((^(");
        c.bad(2, LOCK + "not not not not not not not ^not");
    }

    private void withinOthersMixed() {
        c.good(LOCK + "not(not(not(not 1)));", 0, 1);
        c.bad(2, LOCK + "not(not(not(not ^(1))));");
        c.good(LOCK + "(not(not(not(1))));", 0, 1);
        c.bad(2, LOCK + "(not(not(not(^not 1))));");
        c.good(LOCK + "((((((not 1))))));", 0, 1);
        c.bad(2, LOCK + "((((((not ^not 1))))));");
        c.bad(2, LOCK + "((((((not ^(1)))))));");
        c.good(LOCK + "not not not not not not (1);", 0, 1);
        c.bad(2, LOCK + "not not not not not not (^(1));");
        c.bad(2, LOCK + "not not not not not not (1 < ^(1));");
        for (String joint : new String[] {" or ", " and ", " + ", " - ", " < ", " > ", " = "}) {
            c.good(LOCK + "((((((1" + joint + "(1)))))));", 0, 1);
            c.bad(2, LOCK + "(((((((1" + joint + "^(1))))))));");
            c.bad(2, LOCK + "(((((((1 or 1" + joint + "^(1))))))));");
            c.bad(2, LOCK + "(((((((1 and 1" + joint + "^(1))))))));");
            c.good(LOCK + "not not not not not not (1)" + joint + "1;", 0, 1);
        }
        for (String joint : new String[] {" or ", " and "}) {
            c.good(LOCK + "((((((1" + joint + "not 1))))));", 0, 1);
            c.bad(2, LOCK + "(((((((1" + joint + "^not 1)))))));");
            c.bad(2, LOCK + "(((((((1 or 1 and 1" + joint + "^not 1)))))));");
            // Behind it, too, as many can be within one another as ahead of it.
            c.good(LOCK + "(((((((1)))))))" + joint + "not not not not not not not 1;", 0, 1);
        }
        // A relation's or a sum's parts lie no deeper than it does.
        c.good(LOCK + "(((((((1 + 1 < 1 - 1 and 1 or 1)))))));", 0, 1);
    }

    // ---- FAULTS

    /** "3 a NAME told already (of TUNES; of LOCKS), an N of sweet told already". */
    private void namesToldAlready() {
        c.bad(3, "tune a of 1 1;tune ^a of 1 1;");
        c.bad(3, "lock a near 0 opens 1;lock ^a near 0 opens 1;");
        c.good("tune a of 1 1;lock a near 0 opens 1;", 1, 1);
        c.good("lock a near 0 opens 1;tune a of 1 1;", 1, 1);
        c.good("tune a of 1 1;tune aa of 1 1;tune b of 1 1;", 3, 0);
        c.bad(3, tunes(13) + "tune ^m of 1 1;");
        c.bad(3, tunes(13) + "tune ^a of 1 1;");
        c.bad(3, locks(7) + "lock ^g near 0 opens 1;");
        c.bad(3, "sweet 0 ^0;");
        c.good("sweet 0 1;", 0, 0);
    }

    /** "FAULTS, the first by its place". */
    private void firstByPlace() {
        c.bad(2, "tune a ^near *");
        c.bad(1, "tune a ^* near");
        c.bad(4, "tune a of ^61 * ;");
        c.bad(3, "tune a of 1 1;tune ^a of 61 *");
        c.bad(5, LOCK + "in ^a and *;");
        c.bad(4, "lock l near ^21 opens in a;");
        c.bad(2, tunes(14) + "^tune a of 61 1;");
        c.bad(2, locks(8) + "^lock a near 21 opens in b;");
        c.bad(2, "sweet 1;^sweet 12 *;");
        c.bad(3, "sweet 1 ^1 12;");
        c.bad(4, "sweet 1 ^12 1;");
        c.bad(2, "tune a of" + notes(12) + " ^1 99;");
    }

    /** "at one place the least". */
    private void leastAtOnePlace() {
        // No TOKEN, and none that could stand there.
        c.bad(1, "tune a of" + notes(12) + " ^12345 1;");
        c.bad(1, "sweet 0 1 2 3 4 5 6 7 8 9 10 11 ^1a;");
        c.bad(1, LOCK + units(60) + "+^1a;");
        c.bad(1, LOCK + "(((((((^1a");
        c.bad(1, "tune a of ^99999 1;");
        c.bad(1, "tune ^nightnight of 1 1;");
        // Can't stand there, and told already, or a number that can't be.
        c.bad(2, "sweet 0 1 2 3 4 5 6 7 8 9 10 11 ^11;");
        c.bad(2, "sweet 0 1 2 3 4 5 6 7 8 9 10 11 ^99;");
        c.bad(2, "tune a of" + notes(12) + " ^61 1;");
    }

    /** "the end: the text's length". */
    private void placeOfTheEnd() {
        c.bad(2, "tune^");
        c.bad(2, "tune    ^");
        c.bad(2, "tune\n\n^");
        c.bad(2, "tune a of 1 1; lock l near 0 opens 1 ^");
        c.bad(2, LOCK + "in ^");
        c.bad(2, LOCK + "1 < ^");
        c.bad(2, LOCK + "not ^");
        c.bad(2, LOCK + "(1^");
        c.bad(2, LOCK + "(1 ^");
        c.bad(2, "sweet 1 2 ^");
        c.bad(2, " ".repeat(1696) + "tune^");
        c.bad(2, "tune" + " ".repeat(1696) + "^");
    }

    /** A text is read by itself alone: nothing told ahead of it counts. */
    private void eachTextAnew() {
        TuneLocks x = Check.told(tunes(14) + locks(8) + "sweet 1;");
        Check.put(x, "lock l near 0 opens in a;");
        c.due("no tunes of the town before", x.town(), -1);
        c.due("no tunes of the town before", x.fault(0), 5);
        x.end(0);
        Check.put(x, "tune a of 0 1 3 1;sweet 1 *;");
        c.due("a fault behind sweet", x.town(), -1);
        c.due("a fault behind sweet", x.fault(1), 26);
        c.due("14 tunes still", x.about(0), 14);
        x.end(0);
        Check.put(x, "tune a of 0 1 3 1;lock a near 0 opens " + units(60) + ";");
        c.due("a name, a sort, units anew", x.town(), 1);
        c.due("units", x.about(7), 60);
        c.due("sweet is not told any more", x.round(0, 1), 0);
        Check.put(x, "tune a of 0 1 1 1;tune b of 0 1 3 1;sweet 1;");
        c.due("sweet is told", x.town(), 0);
        c.due("units", x.about(7), 0);
        c.due("sweet 1", x.round(0, 1), 0);
        Check.put(x, "sweet 3;tune a of 0 1;tune b of 0 0;");
        c.due("a fault", x.town(), -1);
        c.due("sweet 1 still", x.round(0, 1), 0);
        c.due("not 3", x.round(1, 1), 1);
        c.due("notes still", x.notes(0), 2);
        x.end(0);
        Check.put(x, "tune a of 0 1 1 1;tune b of 0 1 3 1;");
        c.due("without sweet", x.town(), 0);
        c.due("3 again", x.round(1, 1), 0);
        c.due("not 1", x.round(0, 1), 1);
    }

    /** One object is told town after town; nothing of one of them is left in a later one. */
    private void textAfterText() {
        TuneLocks x = new TuneLocks();
        String all = "sweet 0 1 2 3 4 5 6 7 8 9 10 11;tune a of 0 1 0 1;tune b of 0 1 11 1;" + LOCK + units(60) + ";";
        String none = "sweet 5;tune a of 0 1 0 1;tune b of 0 1 11 1;lock k near 0 opens not 0;";
        for (int i = 0; i < 8; i++) {
            Check.put(x, all);
            c.due("60 units, time " + i, x.town(), 1);
            c.due("60 units, time " + i, x.about(7), 60);
            c.due("60 units, time " + i, x.asked(0, 0, false), 60);
            c.due("sweet 0", x.round(0, 1), 0);
            c.due("sweet 11", x.round(1, 1), 0);
        }
        for (int i = 0; i < 3; i++) {
            Check.put(x, none);
            c.due("1 unit, time " + i, x.town(), 1);
            c.due("1 unit, time " + i, x.about(7), 1);
            c.due("1 unit, time " + i, x.asked(0, 0, false), 1);
            c.due("0 is not sweet", x.round(0, 1), 1);
            c.due("11 is not sweet", x.round(1, 1), 1);
        }
        for (int i = 0; i < 3; i++) {
            Check.put(x, "sweet 0 11;tune a of 1 1;" + LOCK + units(60) + ";*");
            c.due("a fault behind all", x.town(), -1);
            c.due("a fault behind all", x.fault(0), 1);
            c.due("0 is still not sweet", x.round(0, 1), 1);
            x.end(0);
        }
        Check.put(x, all);
        c.due("60 units, behind faults", x.town(), 1);
        c.due("60 units, behind faults", x.asked(0, 0, true), 60);
    }

    /** "2 one that can't stand there": a line that ends too early, by the text's end or by the next line's first word. */
    private void linesCutOff() {
        String[][] lines = {{"tune", "a", "of", "1", "1", "2", "2", ";"}, {"sweet", "1", "2", ";"},
            {"lock", "l", "near", "0", "opens", "not", "(", "in", "a", "+", "1", "<", "notes", "and", "night", ")", "or", "worn", ";"}};
        for (String[] line : lines) {
            StringBuilder s = new StringBuilder("tune a of 1 1;".substring(line[0].equals("tune") ? 14 : 0));
            for (int i = 0; i < line.length - 1; i++) {
                s.append(line[i]).append(' ');
                c.bad(2, s + "^");
                for (String next : new String[] {"tune z of 1 1;", "lock z near 0 opens 1;", "sweet 1;", "; ;"}) {
                    // A sign ; may stand where the line is whole.
                    boolean whole = next.startsWith(";") && isWhole(line, i);
                    c.bad(2, whole ? s + "; ^;" : s + "^" + next);
                }
            }
        }
    }

    private static boolean isWhole(String[] line, int last) {
        switch (line[0]) {
            case "tune":
                return last > 2 && last % 2 == 0;
            case "sweet":
                return last > 0;
            default:
                return last == 15 || last == 17;
        }
    }
}
