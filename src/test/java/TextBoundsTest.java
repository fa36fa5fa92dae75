/** The boundary cases of THE TEXT, sentence by sentence: type, clear, village and what a text may tell. */
public final class TextBoundsTest {
    private static final Due DUE = new Due("TextBoundsTest");
    private static final String EIGHT = " 0 1 2 3 4 5 6 7";
    private static final String SAME_EIGHT = " 5 5 5 5 5 5 5 5";

    public static void main(String[] args) {
        bytes();
        fullText();
        clearing();
        blanks();
        items();
        heldItem();
        clauseItem();
        clashItem();
        claimItem();
        purseItem();
        coins();
        restsAndGrants();
        onceEach();
        tokens();
        lettersThatBeginNone();
        ninthClause();
        ninthClash();
        seventhClaim();
        ninthBelief();
        again();
        likeBeliefs();
        noPlaceForG();
        beyondWhatItMayBe();
        byteThatBeginsNone();
        above99();
        zeroAhead();
        endsTooEarly();
        firstOfSeveral();
        readAnew();
        DUE.end();
    }

    private static void is(String call, long got, long want) {
        DUE.is(call, got, want);
    }

    private static PotLoans reads(String text, int items) {
        PotLoans x = new PotLoans();
        is("village() of '" + text + "'", Due.village(x, text), items);
        is("the text is empty behind '" + text + "'", x.count(5), 0);
        return x;
    }

    /** A village that was told before stays, and so does the text that is at fault. */
    private static void faults(String text, int place) {
        PotLoans x = Due.told("h3;c4 3;x1 2;m1 9 3;p7;");
        is("village() of '" + text + "'", Due.village(x, text), -10 - place);
        is("count(5) behind '" + text + "'", x.count(5), text.length());
        is("now(1) behind '" + text + "'", x.now(1), 24);
        is("now(2) behind '" + text + "'", x.now(2), 7);
        for (int what = 0; what < 3; what++) {
            is("count(" + what + ") behind '" + text + "'", x.count(what), 1);
        }
        is("claim(0, 1) behind '" + text + "'", x.claim(0, 1), 9);
    }

    // ---- type, clear

    private static void bytes() {
        DUE.sentence("A byte (0 .. 255) comes to THE TEXT: how many it has. BAD; FULL.");
        PotLoans x = new PotLoans();
        is("type(-1), empty", x.type(-1), PotLoans.BAD);
        is("type(256), empty", x.type(256), PotLoans.BAD);
        is("count(5)", x.count(5), 0);
        for (int b = 0; b < 110; b++) {
            is("type(" + b + ")", x.type(b), b + 1);
        }
        PotLoans y = new PotLoans();
        for (int b = 110; b < 256; b++) {
            is("type(" + b + ")", y.type(b), b - 109);
        }
        int[] wild = {-1, -2, -256, 256, 257, 288, 1000, 1 << 16, Integer.MIN_VALUE, Integer.MAX_VALUE};
        for (int b : wild) {
            is("type(" + b + ")", y.type(b), PotLoans.BAD);
        }
        is("count(5)", y.count(5), 146);
    }

    private static void fullText() {
        DUE.sentence("They are a text (220 bytes at most)");
        PotLoans x = new PotLoans();
        for (int i = 1; i <= 219; i++) {
            is("type(32)", x.type(32), i);
        }
        is("type('h'), the 220th", x.type('h'), 220);
        is("type(';'), the 221st", x.type(';'), PotLoans.FULL);
        is("type(-1), bad ahead of full", x.type(-1), PotLoans.BAD);
        is("type(256), bad ahead of full", x.type(256), PotLoans.BAD);
        is("count(5)", x.count(5), 220);
        is("village(), the 221st is not in it", x.village(), -230);
        is("type(';'), full still", x.type(';'), PotLoans.FULL);
        is("clear()", x.clear(), 220);
        is("type('h')", x.type('h'), 1);
        PotLoans y = reads(" ".repeat(218) + "h;", 1);
        is("type(' '), read and empty", y.type(' '), 1);
        reads("h;" + " ".repeat(218), 1);
        reads(" ".repeat(220), 0);
        PotLoans z = reads(" ".repeat(217) + "p8;", 1);
        is("now(2)", z.now(2), 8);
        faults(" ".repeat(180) + "p8", 182);
    }

    private static void clearing() {
        DUE.sentence("THE TEXT is empty: how many bytes it had.");
        PotLoans x = new PotLoans();
        is("clear(), empty", x.clear(), 0);
        x.type('h');
        is("clear(), one", x.clear(), 1);
        is("clear(), empty", x.clear(), 0);
        is("village(), nothing is left of it", x.village(), 0);
        Due.type(x, "p8;" + " ".repeat(217));
        is("clear(), full", x.clear(), 220);
        is("count(5)", x.count(5), 0);
        is("village(), nothing is left of it", x.village(), 0);
        is("now(2)", x.now(2), 50);
        is("village(), what comes behind it alone", Due.village(x, "h1;"), 1);
        is("now(0)", x.now(0), 2);
        is("clear(), read", x.clear(), 0);
    }

    // ---- what a text may tell

    private static void blanks() {
        DUE.sentence("read byte by byte, blanks (32) between TOKENS");
        reads("", 0);
        reads(" ", 0);
        is("none where they are not needed", reads("m9 8 7g6;", 1).claim(0, 3), 64);
        is("one everywhere", reads(" m 9 8 7 g 6 ; ", 1).claim(0, 3), 64);
        is("many", reads("   m   9   8   7   g   6   ;   ", 1).claim(0, 3), 64);
        is("two numbers", reads("h1 2;", 1).now(0), 6);
        faults("h12;", 1);
        faults("h h;", 2);
        for (int b : new int[] {0, 9, 10, 11, 12, 13, 31, 33, 127, 160, 255}) {
            faults("h1" + (char) b + "2;", 2);
        }
    }

    private static void items() {
        DUE.sentence("THE TEXT tells all, and is empty then: how many ITEMS.");
        PotLoans told = reads("h1;p2;c3;", 3);
        is("village(), empty then", told.village(), 0);
        is("now(0), nothing was told", told.now(0), 0);
        is("now(2), nothing was told", told.now(2), 50);
        is("count(0), nothing was told", told.count(0), 0);
        DUE.sentence("ITEMS, each letters and what is told, ended by ;");
        reads("", 0);
        reads("h;", 1);
        reads("h;p0;", 2);
        PotLoans x = reads("c0;".repeat(8) + "x0 1;".repeat(8) + "m0 0;".repeat(6) + "h;p0;", 24);
        is("count(0)", x.count(0), 8);
        is("count(1)", x.count(1), 8);
        is("count(2)", x.count(2), 6);
        faults("h1 p2;", 3);
        faults("h1", 2);
        faults("h;;", 2);
        faults(";", 0);
    }

    private static void heldItem() {
        DUE.sentence("h and BELIEFS (HELD at first; 0 to 8 NUMBERS)");
        is("none", reads("h;", 1).now(0), 0);
        is("the least", reads("h0;", 1).now(0), 1);
        is("the greatest", reads("h7;", 1).now(0), 128);
        is("all", reads("h" + EIGHT + ";", 1).now(0), 255);
        is("one told eight times", reads("h" + SAME_EIGHT + ";", 1).now(0), 32);
        is("not told", reads("p5;", 1).now(0), 0);
        faults("h8;", 1);
        faults("h" + EIGHT + " 0;", 18);
    }

    private static void clauseItem() {
        DUE.sentence("c B and BELIEFS (a clause: B must be believed, by who BELIEVES all of the others; 0 to 8 NUMBERS behind B)");
        clauseIs("c0;", 0, 0);
        clauseIs("c7;", 7, 0);
        clauseIs("c0 7;", 0, 128);
        clauseIs("c7 0;", 7, 1);
        clauseIs("c3 3;", 3, 8);
        clauseIs("c6" + EIGHT + ";", 6, 255);
        clauseIs("c6" + SAME_EIGHT + ";", 6, 32);
        faults("c;", 1);
        faults("c8;", 1);
        faults("c0 8;", 3);
        faults("c6" + EIGHT + " 0;", 19);
    }

    private static void clauseIs(String text, int must, int who) {
        PotLoans x = reads(text, 1);
        is("count(0) of " + text, x.count(0), 1);
        is("clause(0, 0) of " + text, x.clause(0, 0), must);
        is("clause(0, 1) of " + text, x.clause(0, 1), who);
    }

    private static void clashItem() {
        DUE.sentence("x A B (a clash)");
        PotLoans x = reads("x0 7;", 1);
        is("count(1)", x.count(1), 1);
        is("holds(0)", x.holds(0), 1);
        is("now(5), one of both", x.now(5), 0);
        is("holds(7)", x.holds(7), 129);
        is("now(5), both", x.now(5), 1);
        is("the other way round", reads("x7 0;h0 7;", 2).now(5), 1);
        faults("x;", 1);
        faults("x0;", 2);
        faults("x0 1 2;", 5);
        faults("x8 1;", 1);
        faults("x0 8;", 3);
    }

    private static void claimItem() {
        DUE.sentence("m G T and BELIEFS, if any then g and BELIEFS, if any (a claim: GIVES, TAKES, RESTS on the first, GRANTS those behind g)");
        claimIs("m0 0;", 0, 0, 0, 0);
        claimIs("m99 99;", 99, 99, 0, 0);
        claimIs("m0 99 g;", 0, 99, 0, 0);
        claimIs("m99 0 7;", 99, 0, 128, 0);
        claimIs("m1 2 0 g;", 1, 2, 1, 0);
        claimIs("m1 2 g7;", 1, 2, 0, 128);
        claimIs("m1 2" + EIGHT + "g" + EIGHT + ";", 1, 2, 255, 255);
        claimIs("m1 2" + SAME_EIGHT + ";", 1, 2, 32, 0);
        claimIs("m1 2 g" + SAME_EIGHT + ";", 1, 2, 0, 32);
        faults("m;", 1);
        faults("m1;", 2);
        faults("m100 0;", 1);
        faults("m0 100;", 3);
        faults("m1 2 8;", 5);
        faults("m1 2 g8;", 6);
        faults("m1 2" + EIGHT + " 0;", 21);
        faults("m1 2 g" + EIGHT + " 0;", 23);
    }

    private static void claimIs(String text, int gives, int takes, int rests, int grants) {
        PotLoans x = reads(text, 1);
        int[] due = {gives, takes, rests, grants, 0};
        is("count(2) of " + text, x.count(2), 1);
        for (int what = 0; what < due.length; what++) {
            is("claim(0, " + what + ") of " + text, x.claim(0, what), due[what]);
        }
    }

    private static void purseItem() {
        DUE.sentence("PURSE (0 .. 99 coins of his; 50 at first)");
        is("a new object", new PotLoans().now(2), 50);
        is("not told", reads("h1;", 1).now(2), 50);
        is("no text", reads("", 0).now(2), 50);
        is("none", reads("p0;", 1).now(2), 0);
        is("most", reads("p99;", 1).now(2), 99);
        faults("p100;", 1);
        DUE.sentence("p N (purse)");
        faults("p;", 1);
        faults("p1 1;", 3);
        faults("p", 1);
        faults("p1", 2);
    }

    private static void coins() {
        DUE.sentence("GIVES (0 .. 99 coins to THE LENDER), TAKES (0 .. 99 from him)");
        for (int n = 0; n <= 99; n++) {
            PotLoans x = reads("m" + n + " " + (99 - n) + ";p" + n + ";", 2);
            is("claim(0, 0)", x.claim(0, 0), n);
            is("claim(0, 1)", x.claim(0, 1), 99 - n);
            is("now(2)", x.now(2), n);
        }
        faults("m100 99;", 1);
        faults("m99 100;", 4);
    }

    private static void restsAndGrants() {
        DUE.sentence("RESTS on BELIEFS, GRANTS BELIEFS (0 to 8 each)");
        for (int rests = 0; rests <= 8; rests++) {
            for (int grants = 0; grants <= 8; grants++) {
                String text = "m1 2" + EIGHT.substring(0, rests * 2) + " g" + EIGHT.substring(0, grants * 2) + ";";
                PotLoans x = reads(text, 1);
                is("claim(0, 2) of " + text, x.claim(0, 2), (1 << rests) - 1);
                is("claim(0, 3) of " + text, x.claim(0, 3), (1 << grants) - 1);
            }
        }
        faults("m1 2" + EIGHT + " 7 g;", 21);
        faults("m1 2" + EIGHT + " g" + EIGHT + " 7;", 39);
    }

    private static void onceEach() {
        DUE.sentence("h, p once each at most");
        reads("h;", 1);
        reads("p1;", 1);
        reads("p1;h1;", 2);
        faults("h;h;", 2);
        faults("p1;p1;", 3);
        faults("h;c1;p1;x0 1;h2;", 13);
        faults("p1;c1;h;x0 1;p1;", 13);
        PotLoans x = reads("h1;p1;", 2);
        is("again in the next text", Due.village(x, "h2;p2;"), 2);
        is("now(0)", x.now(0), 4);
        is("now(2)", x.now(2), 2);
    }

    private static void tokens() {
        DUE.sentence("TOKENS are letters a .. z side by side, NUMBERS and ;");
        faults("ha;", 0);
        faults("hz;", 0);
        faults("h" + (char) ('a' - 1) + ";", 1);
        faults("h" + (char) ('z' + 1) + ";", 1);
        faults("hA;", 1);
        faults("hZ;", 1);
        faults("H;", 0);
        faults("h" + (char) ('0' - 1) + ";", 1);
        faults("h0" + (char) ('9' + 1) + ";", 2);
        is("digits side by side", reads("p98;", 1).now(2), 98);
        is("a letter ends a number", reads("m1 23g4;", 1).claim(0, 1), 23);
        is("and a number a letter", reads("m1 23g4;", 1).claim(0, 3), 16);
    }

    // ---- FAULT

    private static void lettersThatBeginNone() {
        DUE.sentence("FAULT: the place of the first byte of the first TOKEN that can't stand there (letters that begin no ITEM");
        for (char letter = 'a'; letter <= 'z'; letter++) {
            boolean begins = "hcxmp".indexOf(letter) >= 0;
            faults(letter + "", begins ? 1 : 0);
            faults("  " + letter, begins ? 3 : 2);
            faults("hcxmp".indexOf(letter) >= 0 ? "h" + letter + ";" : letter + ";", 0);
            faults("p5; " + letter + letter + "1;", 4);
        }
    }

    private static void ninthClause() {
        DUE.sentence("CLAUSES (8 of them at most)");
        is("none", reads("h;", 1).count(0), 0);
        PotLoans x = reads("c7 6;".repeat(7) + "c5 4;", 8);
        is("count(0)", x.count(0), 8);
        is("clause(7, 0)", x.clause(7, 0), 5);
        is("clause(7, 1)", x.clause(7, 1), 16);
        is("clause(8, 0)", x.clause(8, 0), PotLoans.BAD);
        is("the eighth binds", x.would(16), 48);
        DUE.sentence("a ninth clause");
        faults("c1;".repeat(8) + " c", 25);
        faults("c1;".repeat(8) + "c1;", 24);
        faults("h;" + "c1 2;".repeat(4) + "p3;" + "c1 2;".repeat(4) + "x0 1;c8;", 50);
    }

    private static void ninthClash() {
        DUE.sentence("CLASHES (8 of them at most)");
        is("none", reads("h;", 1).count(1), 0);
        PotLoans x = reads("x0 1;".repeat(7) + "x6 7;h6 7;", 9);
        is("count(1)", x.count(1), 8);
        is("the eighth is one", x.now(5), 1);
        DUE.sentence("a ninth clash");
        faults("x0 1;".repeat(8) + " x", 41);
        faults("x0 1;".repeat(8) + "x2 3;", 40);
        faults("h;" + "x0 1;".repeat(4) + "p3;" + "x0 1;".repeat(4) + "c1;x1 1;", 48);
    }

    private static void seventhClaim() {
        DUE.sentence("CLAIMS 0 .. (6 of them at most)");
        is("none", reads("h;", 1).count(2), 0);
        PotLoans x = reads("m1 2;".repeat(5) + "m3 4 5g6;", 6);
        is("count(2)", x.count(2), 6);
        is("claim(5, 1)", x.claim(5, 1), 4);
        is("claim(5, 2)", x.claim(5, 2), 32);
        is("claim(5, 3)", x.claim(5, 3), 64);
        is("claim(6, 0)", x.claim(6, 0), PotLoans.BAD);
        DUE.sentence("a seventh claim");
        faults("m1 2;".repeat(6) + " m", 31);
        faults("m1 2;".repeat(6) + "m3 4;", 30);
        faults("h;" + "m1 2;".repeat(3) + "p3;" + "m1 2;".repeat(3) + "c1;m100;", 38);
    }

    private static void ninthBelief() {
        DUE.sentence("a ninth of BELIEFS in one row");
        String[] rows = {"h", "c0", "m1 2", "m1 2 g", "m1 2 3 g", "m1 2" + EIGHT + " g"};
        for (String row : rows) {
            reads(row + EIGHT + ";", 1);
            reads(row + SAME_EIGHT + ";", 1);
            faults(row + EIGHT + "  3;", row.length() + 18);
            faults(row + SAME_EIGHT + " 5;", row.length() + 17);
            faults(row + EIGHT + " 99;", row.length() + 17);
        }
        faults("h" + EIGHT + " 1", 18);
        reads("h" + EIGHT + ";c0" + EIGHT + ";m1 1" + EIGHT + "g" + EIGHT + ";m1 1" + EIGHT + ";", 4);
    }

    private static void again() {
        DUE.sentence("h, p again");
        faults("h;h", 2);
        faults("h1;   h;", 6);
        faults("p1;p", 3);
        faults("p99;  p1;", 6);
        faults("h;p1;h;p1;", 5);
        faults("p1;h;p1;h;", 5);
    }

    private static void likeBeliefs() {
        DUE.sentence("B that is A");
        for (int a = 0; a < 8; a++) {
            for (int b = 0; b < 8; b++) {
                if (a == b) {
                    faults("x" + a + " " + b + ";", 3);
                } else {
                    reads("x" + a + " " + b + ";", 1);
                }
            }
        }
        faults("x0 1;x2  2", 9);
    }

    private static void noPlaceForG() {
        DUE.sentence("g where none can stand");
        faults("g;", 0);
        faults("h g;", 2);
        faults("h1 g2;", 3);
        faults("c g;", 2);
        faults("c1g;", 2);
        faults("c1 2 g;", 5);
        faults("x g;", 2);
        faults("x1g;", 2);
        faults("x1 2g;", 4);
        faults("p g;", 2);
        faults("p1g;", 2);
        faults("m g;", 2);
        faults("m1g;", 2);
        faults("m1 2 g g;", 7);
        faults("m1 2 g3 g;", 8);
        faults("m1 2 3 g4 g5;", 10);
        faults("m1 2 gg;", 5);
        faults("m1 2;g3;", 5);
    }

    private static void beyondWhatItMayBe() {
        DUE.sentence("a NUMBER beyond what it may be");
        String[] beliefs = {"h", "h 1 ", "c", "c1 ", "x", "x1 ", "m1 2 ", "m1 2 3 ", "m1 2g", "m1 2g3 "};
        for (String row : beliefs) {
            String tail = row.equals("x") ? " 1;" : ";";
            reads(row + 0 + tail, 1);
            reads(row + 7 + tail, 1);
            for (int n : new int[] {8, 9, 10, 17, 32, 64, 99}) {
                faults(row + n + tail, row.length());
            }
        }
        String[] coins = {"m", "m0 ", "p"};
        for (String row : coins) {
            String tail = row.equals("m") ? " 0;" : ";";
            reads(row + 0 + tail, 1);
            reads(row + 99 + tail, 1);
            faults(row + 100 + tail, row.length());
        }
    }

    private static void byteThatBeginsNone() {
        DUE.sentence("of a byte that begins none, a NUMBER above 99 or with a 0 ahead of others, that TOKEN's");
        for (int b = 0; b < 256; b++) {
            char c = (char) b;
            boolean letter = c >= 'a' && c <= 'z';
            boolean digit = c >= '0' && c <= '9';
            if (c == ' ') {
                reads("h" + c + ";", 1);
                reads("p5;" + c, 1);
            } else if (c == ';') {
                faults("h" + c + ";", 2);
                faults("p5;" + c, 3);
            } else if (letter) {
                faults("h" + c + ";", 0);
                faults("p5;" + c, "hcxm".indexOf(c) >= 0 ? 4 : 3);
            } else if (digit && c <= '7') {
                reads("h" + c + ";", 1);
                faults("p5;" + c, 3);
            } else {
                faults("h" + c + ";", 1);
                faults("p5;" + c, 3);
                faults("p5;h0" + c + "1;", digit ? 4 : 5);
            }
        }
    }

    private static void above99() {
        DUE.sentence("a NUMBER above 99");
        reads("p99;", 1);
        String[] above = {"100", "101", "199", "200", "256", "999", "1000", "2147483648", "4294967296", "4294967297",
            "4294967303", "9223372036854775808", "18446744073709551616", "18446744073709551617", "9".repeat(150)};
        for (String n : above) {
            faults("p " + n + ";", 2);
            faults("p" + n, 1);
            faults("h1 " + n + ";", 3);
            faults("m" + n + " 1;", 1);
            faults("m1 " + n + ";", 3);
            faults("c1;" + n + ";", 3);
        }
    }

    private static void zeroAhead() {
        DUE.sentence("or with a 0 ahead of others");
        reads("p0;", 1);
        is("a 0 behind others", reads("p10;", 1).now(2), 10);
        for (String n : new String[] {"00", "01", "07", "09", "000", "001", "010", "099", "0".repeat(150)}) {
            faults("p " + n + ";", 2);
            faults("p" + n, 1);
            faults("h" + n + ";", 1);
            faults("h3 " + n + ";", 3);
            faults("c" + n + ";", 1);
            faults("x1 " + n + ";", 3);
            faults("m" + n + " 1;", 1);
            faults("m1 " + n + ";", 3);
        }
        is("0 and 0 are two", reads("m0 0 0 0;", 1).claim(0, 2), 1);
    }

    private static void endsTooEarly() {
        DUE.sentence("the text's length, if it ends too early");
        String all = "h1 2;c3 4;c5;x5 6;m7 8 1 g2;m1 2;m3 4g;p9;";
        int items = 0;
        for (int end = 0; end <= all.length(); end++) {
            String text = all.substring(0, end);
            if (text.isEmpty() || text.endsWith(";")) {
                items += text.isEmpty() ? 0 : 1;
                reads(text, items);
                reads(text + "  ", items);
            } else {
                faults(text, text.length());
                faults(text + "   ", text.length() + 3);
            }
        }
        is("all was read", items, 8);
        PotLoans x = new PotLoans();
        Due.type(x, "h1;p9;");
        x.clear();
        is("an earlier text's bytes don't count", Due.village(x, "h"), -11);
        is("what is missing may still come", Due.village(x, "5;"), 1);
        is("now(0)", x.now(0), 32);
    }

    private static void firstOfSeveral() {
        DUE.sentence("the first TOKEN that can't stand there");
        faults("h9 8 g;q", 1);
        faults("h1;q;h1;", 3);
        faults("x8 8;", 1);
        faults("m100 100 8 g8;", 1);
        faults("m1 2 8 g8;", 5);
        faults("h01 ~;", 1);
        faults("h~ 01;", 1);
        faults("c1;".repeat(8) + "x1 1;c1;", 27);
        faults("h1 8", 3);
    }

    // ---- village

    private static void readAnew() {
        DUE.sentence("(Read anew: as told, nothing ACCEPTED, TOLD or to be UNDONE, IMAGES are gone.)");
        for (String text : new String[] {"", "  ", "h;", "h3;p9;m1 2;"}) {
            PotLoans x = Due.told("h2;c1 2;x0 5;m5 1 4 g0;m0 20 1;m0 99 1;p60;");
            x.makes(0);
            x.makes(2);
            x.holds(6);
            x.tells(0, 1);
            x.keep(0);
            x.keep(1);
            boolean more = text.length() > 2;
            is("village()", Due.village(x, text), text.isBlank() ? 0 : more ? 3 : 1);
            is("now(0)", x.now(0), more ? 8 : 0);
            is("now(1)", x.now(1), more ? 8 : 0);
            is("now(2)", x.now(2), more ? 9 : 50);
            is("now(3)", x.now(3), 0);
            is("now(4)", x.now(4), 0);
            int[] counts = {0, 0, more ? 1 : 0, 0, 0, 0};
            for (int what = 0; what < counts.length; what++) {
                is("count(" + what + ")", x.count(what), counts[what]);
            }
            is("undo()", x.undo(), PotLoans.STATE);
            is("back(0)", x.back(0), PotLoans.STATE);
            is("back(1)", x.back(1), PotLoans.STATE);
            is("forget()", x.forget(), 0);
            is("believed(0)", x.believed(0), 256);
        }
        readAgainAndAgain();
    }

    /** Nothing of any earlier text is left, whichever it was. */
    private static void readAgainAndAgain() {
        String much = "h0 7;c1 0 7;c2 1;x3 4;x4 5;m1 9 0 g6;m2 9 1 g5;p9;";
        PotLoans x = new PotLoans();
        for (int time = 0; time < 3; time++) {
            is("village(), much", Due.village(x, much), 8);
            is("now(1)", x.now(1), 135);
            is("would(0)", x.would(0), 0);
            is("village(), less", Due.village(x, "c3;m7 0;"), 2);
            is("clause(0, 1)", x.clause(0, 1), 0);
            is("claim(0, 2)", x.claim(0, 2), 0);
            is("claim(0, 3)", x.claim(0, 3), 0);
            is("now(0)", x.now(0), 0);
            is("now(1)", x.now(1), 8);
            is("would(129)", x.would(129), 137);
            if (time != 1) {
                is("village(), none", x.village(), 0);
                is("now(1)", x.now(1), 0);
                is("now(2)", x.now(2), 50);
            }
            int[] counts = {time == 1 ? 1 : 0, 0, time == 1 ? 1 : 0};
            for (int what = 0; what < counts.length; what++) {
                is("count(" + what + ")", x.count(what), counts[what]);
            }
        }
    }
}
