/** FAULTS of texts, and texts without one. A sign ^ in a text tells the place that is due; it isn't put on the TAPE. */
public final class FaultsTest {
    private final Check c = new Check();

    public static void main(String[] args) {
        FaultsTest t = new FaultsTest();
        t.tokens();
        t.lines();
        t.names();
        t.numbers();
        t.limits();
        t.questions();
        t.depth();
        t.units();
        t.fine();
        t.c.finish();
    }

    private void tokens() {
        c.bad(1, "^*");
        c.bad(1, "  ^\ttune a of 1 1;");
        c.bad(1, "^Tune a of 1 1;");
        c.bad(1, "tune ^\u00e9 of 1 1;");
        c.bad(1, "tune ^\u0000");
        c.bad(1, "tune a of 1 1;^\u00ff");
        c.bad(1, "tune a of 1 1 ^,");
        c.bad(1, "tune ^abcdefghi of 1 1;");
        c.bad(1, "^tunetunetune");
        c.bad(1, "tune a of ^00001 1;");
        c.bad(1, "tune a of 1 ^12345;");
        c.bad(1, "tune a of 1 ^1x;");
        c.bad(1, "tune a of ^61x 1;");
        c.bad(1, "lock l near ^0opens 1;");
        c.bad(1, "lock l near 0 opens ^1and 1;");
        // The first by its place: what can't stand there is ahead of what is no TOKEN.
        c.bad(2, "tune a ^near *");
        c.bad(2, "^tunea of 1 1;");
        c.bad(3, "tune a of 1 1;tune ^a of *");
    }

    private void lines() {
        c.bad(2, "^a");
        c.bad(2, "^;");
        c.bad(2, "^of");
        c.bad(2, "^12");
        c.bad(2, "tune^");
        c.bad(2, "tune  ^");
        c.bad(2, "tune \n^");
        c.bad(2, "tune ^;");
        c.bad(2, "tune ^5");
        c.bad(2, "tune a^");
        c.bad(2, "tune a ^1 1;");
        c.bad(2, "tune a of^");
        c.bad(2, "tune a of ^;");
        c.bad(2, "tune a of 1 ^;");
        c.bad(2, "tune a of 1 1^");
        c.bad(2, "tune a of 1 1 2 ^;");
        c.bad(2, "tune a of 1 1 ^tune");
        c.bad(2, "tune a of ^-1 1;");
        c.bad(2, "tune a of 1 1;^;");
        c.bad(2, "lock ^;");
        c.bad(2, "lock a ^opens 1;");
        c.bad(2, "lock a near ^opens");
        c.bad(2, "lock a near 1 ^;");
        c.bad(2, "lock a near 1 opens^");
        c.bad(2, "lock a near 1 opens ^;");
        c.bad(2, "lock a near 1 opens 1^");
        c.bad(2, "lock a near 1 opens 1 ^lock");
        c.bad(2, "sweet ^;");
        c.bad(2, "sweet^");
        c.bad(2, "sweet 1^");
        c.bad(2, "sweet 1 ^a;");
        c.bad(2, "sweet 1; ^sweet 2;");
    }

    private void names() {
        String[] words = {"tune", "of", "lock", "near", "opens", "sweet", "or", "and", "not", "in", "begins", "ends",
            "night", "notes", "worn"};
        for (String w : words) {
            c.bad(2, "tune ^" + w + " of 1 1;");
            c.bad(2, "lock ^" + w + " near 1 opens 1;");
            c.bad(2, "lock l near 1 opens in ^" + w + ";");
        }
        c.bad(3, "tune a of 1 1;tune b of 1 1;tune ^a of 1 1;");
        c.bad(3, "lock a near 1 opens 1;lock ^a near 1 opens 1;");
        c.bad(5, "lock a near 1 opens in ^a;");
        c.bad(5, "tune b of 1 1;lock a near 1 opens in b and begins ^a;");
        c.bad(5, "lock l near 1 opens ends ^b;tune b of 1 1;");
        c.bad(5, "tune b of 1 1;lock l near 1 opens in ^bb;");
        c.bad(2, "tune b of 1 1;lock l near 1 opens in ^1;");
        c.good("tune a of 1 1;lock a near 0 opens in a;", 1, 1);
        c.good("tune abcdefgh of 1 1;tune abcdefg of 1 1;lock l near 0 opens in abcdefg;", 2, 1);
        c.good("tune e of 1 1;tune both of 1 1;tune line of 1 1;tune n of 1 1;tune tunes of 1 1;tune i of 1 1;", 6, 0);
    }

    private void numbers() {
        c.bad(4, "tune a of ^61 1;");
        c.bad(4, "tune a of ^9999 1;");
        c.bad(4, "tune a of 60 ^0;");
        c.bad(4, "tune a of 60 ^10;");
        c.bad(4, "tune a of 60 1 5 9 ^61 1;");
        c.bad(4, "lock a near ^21 opens 1;");
        c.bad(4, "sweet ^12;");
        c.bad(4, "sweet 0 1 ^99;");
        c.bad(3, "sweet 0 1 ^0;");
        c.bad(3, "sweet 11 ^0011;");
        c.good("tune a of 0 1 60 9;lock a near 0 opens 9999;lock b near 20 opens 0000;sweet 0 11;", 1, 2);
        c.good("tune a of 0060 0009;lock a near 0020 opens 1;sweet 01 002;", 1, 1);
    }

    private void limits() {
        StringBuilder s = new StringBuilder();
        for (int i = 0; i < 14; i++) {
            s.append("tune ").append((char) ('a' + i)).append(" of 1 1;");
        }
        c.good(s.toString(), 14, 0);
        c.bad(2, s + "^tune o of 1 1;");
        c.bad(2, s + "^tune a of 99 1;");
        c.bad(2, s + "sweet 1; ^tune *");
        for (int i = 0; i < 8; i++) {
            s.append("lock ").append((char) ('a' + i)).append(" near 1 opens 1;");
        }
        c.good(s.toString(), 14, 8);
        c.bad(2, s + "^lock a near 1 opens 1;");
        String notes = " 1 1 1 1 1 1 1 1 1 1 1 1 1 1 1 1 1 1 1 1 1 1 1 1";
        c.good("tune a of" + notes + ";", 1, 0);
        c.bad(2, "tune a of" + notes + " ^1 1;");
        c.bad(2, "tune a of" + notes + " ^99 1;");
        c.bad(1, "tune a of" + notes + " ^99999 1;");
        c.bad(2, "tune a of" + notes + " ^a;");
        String tones = "sweet 0 1 2 3 4 5 6 7 8 9 10 11";
        c.good(tones + ";", 0, 0);
        c.bad(2, tones + " ^0;");
        c.bad(2, tones + " ^12;");
        c.bad(1, tones + " ^1a;");
    }

    private void questions() {
        String[] missing = {"1 + ^;", "1 - ^-1;", "1 < ^;", "1 and ^;", "1 or ^or 1;", "not ^;", "(^);", "(1 ^;", "((1)^;",
            "1 ^);", "1 ^1;", "1 < 2 ^< 3;", "1 = 2 ^> 3;", "1 + ^not 1;", "1 < ^not 1;", "^- 1;", "^+ 1;", "^< 1;",
            "^and 1;", "^a;", "1 ^not 1;", "1 ^in a;", "in ^;", "in ^(a);", "night ^night;", "notes ^(1);", "worn ^1;",
            "^tune;", "^opens 1;", "(1 or ^);", "not not ^and;", "1 + (2 ^;", "^near;"};
        for (String e : missing) {
            c.bad(2, "tune a of 1 1;lock l near 0 opens " + e);
        }
        c.bad(1, "lock l near 0 opens 1 ^& 1;");
        c.bad(2, "lock l near 0 opens (1^");
        c.bad(2, "lock l near 0 opens not^");
        c.bad(2, "lock l near 0 opens in^");
    }

    private void depth() {
        String lock = "lock l near 0 opens ";
        c.good(lock + "(((((((1)))))));", 0, 1);
        c.bad(2, lock + "(((((((^(1))))))));");
        c.good(lock + "not not not not not not not 1;", 0, 1);
        c.bad(2, lock + "not not not not not not not ^not 1;");
        c.good(lock + "not(not(not(not 1)));", 0, 1);
        c.bad(2, lock + "not(not(not(not ^(1))));");
        c.bad(2, lock + "(not(not(not(^not 1))));");
        c.good(lock + "(((((((1))))))) + (((((((1))))))) and not (((((( 1 ))))));", 0, 1);
        c.bad(2, lock + "(((((((1))))))) and not ((((((^( 1 )))))));");
        c.good(lock + "not not not not not not not 1 and not not not not not not not 2;", 0, 1);
        c.good(lock + "(not 1 and not 2 and (((((not 1)))))) < 3;", 0, 1);
        // What is no unit there is told as such, however deep.
        c.bad(1, lock + "(((((((^*");
        c.bad(2, lock + "(((((((^;");
    }

    private void units() {
        StringBuilder s = new StringBuilder("tune a of 1 1;lock l near 0 opens 1");
        for (int i = 1; i < 58; i++) {
            s.append("+1");
        }
        c.good(s + ";lock m near 0 opens in a<night;", 1, 2);
        c.bad(2, s + ";lock m near 0 opens in a<night and not ^worn;");
        c.bad(2, s + ";lock m near 0 opens in a<night or ^in b;");
        c.bad(2, s + ";lock m near 0 opens in a<(^1);");
        c.bad(2, s + ";lock m near 0 opens in a<night+^(1);");
        c.bad(2, s + ";lock m near 0 opens (in a)+^1;");
        c.bad(1, s + ";lock m near 0 opens in a<night+^99999;");
        c.good(s + ";lock m near 0 opens (notes);", 1, 2);
        TuneLocks x = Check.told(s + ";lock m near 0 opens (notes);");
        c.due("60 units", x.about(7), 60);
        c.due("58 ones", x.asked(0, 0, true), 58);
        // As many of not as the bytes hold.
        StringBuilder n = new StringBuilder("tune a of 1 1;lock l near 0 opens 0");
        for (int i = 1; i < 50; i++) {
            n.append(" or not not not not not not not 1");
        }
        c.due("343 of not", Check.told(n + ";").asked(0, 0, true), 0);
        c.due("350 of not", Check.told(n + " or not not not not not not not 0;").asked(0, 0, true), 1);
    }

    private void fine() {
        c.good("", 0, 0);
        c.good(" \n \n", 0, 0);
        c.good("tune a of1 1 2 2;lock l near0 opens(in a)and(night)or not(worn<1);", 1, 1);
        c.good("tune\na\nof\n1\n1\n;\nlock l near 0 opens 1+1-1<1;sweet 1;", 1, 1);
        c.good("sweet 1;lock l near 0 opens 1=1;tune a of 1 1;", 1, 1);
        StringBuilder s = new StringBuilder("tune a of 1 1;");
        while (s.length() < 1699) {
            s.append(' ');
        }
        c.bad(2, s + "^1");
        c.good(s.append(' ').toString(), 1, 0);
    }
}
