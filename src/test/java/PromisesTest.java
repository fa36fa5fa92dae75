/** Promise by promise: ordinary inputs, the edges that the document names, wrong inputs. */
public final class PromisesTest {
    private static final Due DUE = new Due("PromisesTest");
    private static final int[] WILD = {-1, -2, -1000, Integer.MIN_VALUE, 1000, 1 << 20, Integer.MAX_VALUE};
    /** Four claims: a gift that grants 0; a loan on 1, which follows from 0; one that would catch him; a dear one. */
    private static final String FOUR = "h2;c1 0;x3 2;m5 1 4 g0;m0 20 1 g5;m9 0 g3;m1 99;p60;";

    public static void main(String[] args) {
        newObject();
        type();
        clear();
        village();
        villageFaults();
        villageLimits();
        villageReadAnew();
        claim();
        clause();
        now();
        makes();
        recants();
        holds();
        undo();
        steps();
        would();
        together();
        row();
        haul();
        forbid();
        odds();
        tellsAndForget();
        believed();
        markAndTrace();
        images();
        counts();
        DUE.end();
    }

    private static void is(String call, long got, long want) {
        DUE.is(call, got, want);
    }

    private static void newObject() {
        PotLoans x = new PotLoans();
        int[] now = {0, 0, 50, 0, 0, 0, 0};
        for (int what = 0; what < now.length; what++) {
            is("1 now(" + what + ")", x.now(what), now[what]);
        }
        for (int what = 0; what < 6; what++) {
            is("1 count(" + what + ")", x.count(what), 0);
        }
        is("1 trace()", x.trace(), 0);
        is("1 claim(0, 0)", x.claim(0, 0), PotLoans.BAD);
        is("1 clause(0, 0)", x.clause(0, 0), PotLoans.BAD);
        is("1 makes(0)", x.makes(0), PotLoans.BAD);
        is("1 row(0, -1)", x.row(0, -1), PotLoans.BAD);
        is("1 odds(0, 5, 0)", x.odds(0, 5, 0), PotLoans.BAD);
        is("1 tells(0, 0)", x.tells(0, 0), PotLoans.BAD);
        is("1 mark(0, 0)", x.mark(0, 0), PotLoans.NO);
        is("1 back(0)", x.back(0), PotLoans.STATE);
        is("1 undo()", x.undo(), PotLoans.STATE);
        is("1 haul(0)", x.haul(0), 0);
        is("1 forbid(0)", x.forbid(0), 0);
        is("1 together(1)", x.together(1), 255);
        is("1 believed(0)", x.believed(0), 256);
        is("1 steps(7)", x.steps(7), PotLoans.NONE);
        is("1 holds(7)", x.holds(7), 128);
    }

    private static void type() {
        PotLoans x = new PotLoans();
        is("2 type(-1)", x.type(-1), PotLoans.BAD);
        is("2 type(256)", x.type(256), PotLoans.BAD);
        is("2 type(0)", x.type(0), 1);
        is("2 type(255)", x.type(255), 2);
        for (int i = 3; i <= 220; i++) {
            is("2 type(32)", x.type(32), i);
        }
        is("2 type(32), full", x.type(32), PotLoans.FULL);
        is("2 type(256), bad ahead of full", x.type(256), PotLoans.BAD);
        is("2 count(5)", x.count(5), 220);
        is("2 village(), a byte 0", x.village(), -10);
        is("2 clear()", x.clear(), 220);
        is("2 type(59)", x.type(59), 1);
    }

    private static void clear() {
        PotLoans x = new PotLoans();
        is("3 clear()", x.clear(), 0);
        Due.type(x, "h1;");
        is("3 clear()", x.clear(), 3);
        is("3 count(5)", x.count(5), 0);
        is("3 clear()", x.clear(), 0);
        is("3 village(), nothing of it is left", x.village(), 0);
        is("3 now(0)", x.now(0), 0);
    }

    private static void village() {
        PotLoans x = new PotLoans();
        is("4 village()", Due.village(x, FOUR), 8);
        is("4 count(5)", x.count(5), 0);
        is("4 now(0)", x.now(0), 4);
        is("4 now(2)", x.now(2), 60);
        is("4 no text", x.village(), 0);
        is("4 count(2)", x.count(2), 0);
        is("4 now(2)", x.now(2), 50);
        is("4 blanks alone", Due.village(x, "    "), 0);
        is("4 blanks everywhere", Due.village(x, "  h  1   2 ;  p 7 ; "), 2);
        is("4 now(0)", x.now(0), 6);
        is("4 no blanks", Due.village(x, "m1 2 3g4;h;c5;"), 3);
        is("4 claim(0, 2)", x.claim(0, 2), 8);
        is("4 claim(0, 3)", x.claim(0, 3), 16);
        is("4 p0", Due.village(x, "p0;"), 1);
        is("4 now(2)", x.now(2), 0);
        is("4 p99", Due.village(x, "p99;"), 1);
        is("4 now(2)", x.now(2), 99);
        is("4 g with none, none without g", Due.village(x, "m0 99 g;m99 0;m0 0 7;"), 3);
        is("4 h none", Due.village(x, "h;"), 1);
    }

    private static void fault(String text, int place) {
        PotLoans x = Due.told("h3;m1 1;p7;");
        is("4 village() of '" + text + "'", Due.village(x, text), -10 - place);
        is("4 the text stays", x.count(5), text.length());
        is("4 what was told stays", x.now(0), 8);
        is("4 what was told stays", x.now(2), 7);
        is("4 what was told stays", x.count(2), 1);
    }

    private static void villageFaults() {
        fault(";", 0);
        fault("3;", 0);
        fault("a;", 0);
        fault("g;", 0);
        fault("hc;", 0);
        fault("ha;", 0);
        fault("hz;", 0);
        fault("H;", 0);
        fault("  q;", 2);
        fault("h", 1);
        fault("h  ", 3);
        fault("h1", 2);
        fault("h1 2", 4);
        fault("h8;", 1);
        fault("h99;", 1);
        fault("h100;", 1);
        fault("h00;", 1);
        fault("h 01;", 2);
        fault("h1 a;", 3);
        fault("h1g;", 2);
        fault("h1-2;", 2);
        fault("h1\t2;", 2);
        fault("h1;;", 3);
        fault("h1;h2;", 3);
        fault("h1;p1;h;", 6);
        fault("c", 1);
        fault("c;", 1);
        fault("cg;", 0);
        fault("c g;", 2);
        fault("c8;", 1);
        fault("c1 8;", 3);
        fault("c1 2 g3;", 5);
        fault("x;", 1);
        fault("x1;", 2);
        fault("x1 1;", 3);
        fault("x1 8;", 3);
        fault("x8 8;", 1);
        fault("x1 2 3;", 5);
        fault("x1 2", 4);
        fault("m;", 1);
        fault("mg;", 0);
        fault("m1;", 2);
        fault("m1 g;", 3);
        fault("m100 1;", 1);
        fault("m1 100;", 3);
        fault("m1 01;", 3);
        fault("m1 2 8;", 5);
        fault("m1 2 g8;", 6);
        fault("m1 2 gg;", 5);
        fault("m1 2 g3 g;", 8);
        fault("m1 2 3 h;", 7);
        fault("m1 2", 4);
        fault("m1 2 g", 6);
        fault("p;", 1);
        fault("p100;", 1);
        fault("p100", 1);
        fault("p99999999999999999999;", 1);
        fault("p1 2;", 3);
        fault("p1;p1;", 3);
        fault("p1", 2);
        fault("p1;" + (char) 255, 3);
        fault("p1;h`;", 4);
        fault("p1;h{;", 4);
        fault("p1;h/;", 4);
        fault("p1;h:;", 4);
        PotLoans x = new PotLoans();
        Due.type(x, "hh99 99;");
        x.clear();
        is("4 bytes of an earlier text don't count", Due.village(x, "h"), -11);
        is("4 the rest of it may still come", Due.village(x, "7;"), 1);
        is("4 nor behind a number", Due.village(x, "h 7;p9"), -16);
    }

    private static void villageLimits() {
        String ninth = " 1 1 1 1 1 1 1 1 1;";
        String eight = " 1 1 1 1 1 1 1 1;";
        fault("h" + ninth, 18);
        fault("c1" + ninth, 19);
        fault("m1 1" + ninth, 21);
        fault("m1 1 g" + ninth, 23);
        fault("m1 1 2 2 2 2 2 2 2 2 2 g;", 21);
        is("4 eight in each row", Due.village(new PotLoans(), "h" + eight + "c1" + eight
            + "m1 1 1 1 1 1 1 1 1 1 g" + eight), 3);
        fault("c1;".repeat(8) + "c1;", 24);
        fault("x1 2;".repeat(8) + "x1 2;", 40);
        fault("m1 2;".repeat(6) + "m1 2;", 30);
        PotLoans x = Due.told("c1;".repeat(8) + "x1 2;".repeat(8) + "m1 2;".repeat(6));
        is("4 eight clauses", x.count(0), 8);
        is("4 eight clashes", x.count(1), 8);
        is("4 six claims", x.count(2), 6);
        is("4 220 bytes", Due.village(x, "c1;" + " ".repeat(217)), 1);
    }

    private static void villageReadAnew() {
        PotLoans x = Due.told(FOUR);
        x.makes(0);
        x.makes(3);
        x.tells(0, 1);
        x.keep(0);
        x.keep(1);
        x.mark(0, 0);
        is("4 village()", Due.village(x, "m1 2;"), 1);
        is("4 nothing is held", x.now(0), 0);
        is("4 the first purse", x.now(2), 50);
        is("4 nothing is accepted", x.now(3), 0);
        is("4 no refusals", x.now(4), 0);
        is("4 nothing told", x.count(3), 0);
        is("4 nothing to be undone", x.undo(), PotLoans.STATE);
        is("4 images are gone", x.back(0), PotLoans.STATE);
        is("4 images are gone", x.back(1), PotLoans.STATE);
        is("4 no clauses", x.count(0), 0);
        is("4 no clashes", x.count(1), 0);
        is("4 rests on none any more", x.claim(0, 2), 0);
        is("4 grants none any more", x.claim(0, 3), 0);
        is("4 the trace stays", x.trace(), 1);
        is("4 nothing follows any more", x.would(1), 1);
        for (int time = 0; time < 2; time++) {
            x.village();
            for (int what = 0; what < 6; what++) {
                is("4 nothing is left of any", x.count(what), 0);
            }
            is("4 nothing is left of any", x.now(0), 0);
            is("4 nothing is left of any", x.now(2), 50);
        }
        PotLoans y = Due.told("c1 0;c2 3;");
        y.would(1);
        y.village();
        Due.village(y, "c7 0;c6;");
        is("4 what follows is new", y.would(1), 193);
    }

    private static void claim() {
        PotLoans x = Due.told(FOUR);
        int[][] due = {{5, 1, 16, 1, 0, 0}, {0, 20, 2, 32, 0, 4}, {9, 0, 0, 8, 0, 2}, {1, 99, 0, 0, 0, 3}};
        for (int c = 0; c < 4; c++) {
            for (int what = 0; what < 6; what++) {
                is("5 claim(" + c + ", " + what + ")", x.claim(c, what), due[c][what]);
            }
            is("5 claim(c, 6)", x.claim(c, 6), PotLoans.BAD);
            is("5 claim(c, -1)", x.claim(c, -1), PotLoans.BAD);
        }
        is("5 claim(4, 0)", x.claim(4, 0), PotLoans.BAD);
        for (int wild : WILD) {
            is("5 claim(" + wild + ", 0)", x.claim(wild, 0), PotLoans.BAD);
            is("5 claim(0, " + wild + ")", x.claim(0, wild), PotLoans.BAD);
        }
        x.makes(0);
        is("5 accepted", x.claim(0, 4), 1);
        is("5 accepted", x.claim(0, 5), 5);
        is("5 can't be refused now", x.claim(1, 5), 1);
        x.recants(0);
        is("5 nothing in it again", x.claim(1, 5), 4);
        howOrder();
    }

    /** Where several hold, the first of 3, 2, 1, 0, 4 does. */
    private static void howOrder() {
        PotLoans x = Due.told("h0;x0 1;m0 9 0 g1;m9 0 0 g1;m9 0 0;m9 0 2;m9 9 2;p8;");
        is("5 3 ahead of 2 and 1", x.claim(0, 5), 3);
        is("5 2 ahead of 1 and 0", x.claim(1, 5), 2);
        is("5 1 ahead of 0", x.claim(2, 5), 1);
        is("5 0", x.claim(3, 5), 0);
        is("5 4, gives as much as it takes", x.claim(4, 5), 4);
        PotLoans y = Due.told("m3 8;m3 9;m0 5;m0 6;p5;");
        is("5 all he has with what it gives", y.claim(0, 5), 1);
        is("5 one more", y.claim(1, 5), 3);
        is("5 all he has", y.claim(2, 5), 1);
        is("5 one more", y.claim(3, 5), 3);
        PotLoans z = Due.told("h0 1;x1 0;m9 0;");
        is("5 he is caught whatever it is", z.claim(0, 5), 2);
    }

    private static void clause() {
        PotLoans x = Due.told("h0;c1 0;c2 1 3;c7;c4 4;");
        int[][] due = {{1, 1, 1}, {2, 10, 0}, {7, 0, 1}, {4, 16, 0}};
        for (int c = 0; c < 4; c++) {
            for (int what = 0; what < 3; what++) {
                is("6 clause(" + c + ", " + what + ")", x.clause(c, what), due[c][what]);
            }
            is("6 clause(c, 3)", x.clause(c, 3), PotLoans.BAD);
        }
        x.holds(3);
        is("6 it binds by what follows, too", x.clause(1, 2), 1);
        is("6 clause(4, 0)", x.clause(4, 0), PotLoans.BAD);
        for (int wild : WILD) {
            is("6 clause(" + wild + ", 0)", x.clause(wild, 0), PotLoans.BAD);
            is("6 clause(0, " + wild + ")", x.clause(0, wild), PotLoans.BAD);
        }
    }

    private static void now() {
        PotLoans x = Due.told(FOUR);
        int[] first = {4, 4, 60, 0, 0, 0, 1};
        int[] later = {5, 7, 64, 1, 1, 0, 2};
        int[] caught = {13, 15, 64, 1, 1, 1, 0};
        checkNow(x, first);
        x.makes(3);
        x.makes(0);
        checkNow(x, later);
        x.holds(3);
        checkNow(x, caught);
        is("7 now(7)", x.now(7), PotLoans.BAD);
        for (int wild : WILD) {
            is("7 now(" + wild + ")", x.now(wild), PotLoans.BAD);
        }
        PotLoans y = Due.told("m99 0;m99 0;p99;");
        y.makes(0);
        y.makes(1);
        is("7 a purse grows beyond 99", y.now(2), 297);
        PotLoans z = Due.told("h7;c6 7;c5 6;c4 5;c3 4;c2 3;c1 2;c0 1;x0 7;");
        is("7 as long as there is more", z.now(1), 255);
        is("7 caught by what follows", z.now(5), 1);
    }

    private static void checkNow(PotLoans x, int[] due) {
        for (int what = 0; what < due.length; what++) {
            is("7 now(" + what + ")", x.now(what), due[what]);
        }
    }

    private static void makes() {
        PotLoans x = Due.told(FOUR);
        is("8 makes(1), nothing in it", x.makes(1), 4);
        is("8 makes(2), caught", x.makes(2), 2);
        is("8 makes(3), too dear", x.makes(3), 3);
        is("8 refusals", x.now(4), 3);
        is("8 nothing else changed", x.now(0), 4);
        is("8 nothing else changed", x.now(2), 60);
        is("8 makes(0), gladly", x.makes(0), 0);
        is("8 held, too", x.now(0), 5);
        is("8 purse", x.now(2), 64);
        is("8 makes(0) again", x.makes(0), PotLoans.STATE);
        is("8 makes(1), can't be refused", x.makes(1), 1);
        is("8 purse", x.now(2), 44);
        is("8 accepted", x.now(3), 3);
        is("8 held, too", x.now(0), 37);
        is("8 refusals", x.now(4), 3);
        is("8 STATE is nothing done", x.count(4), 5);
        is("8 makes(4)", x.makes(4), PotLoans.BAD);
        for (int wild : WILD) {
            is("8 makes(" + wild + ")", x.makes(wild), PotLoans.BAD);
        }
    }

    private static void recants() {
        PotLoans x = Due.told("h0 1 7;c2 0;");
        is("9 recants(0)", x.recants(0), 130);
        is("9 what followed is gone", x.now(1), 130);
        is("9 recants(0) again", x.recants(0), PotLoans.STATE);
        is("9 recants(2), not held", x.recants(2), PotLoans.STATE);
        is("9 recants(7)", x.recants(7), 2);
        is("9 recants(8)", x.recants(8), PotLoans.BAD);
        is("9 what was done", x.count(4), 2);
        for (int wild : WILD) {
            is("9 recants(" + wild + ")", x.recants(wild), PotLoans.BAD);
        }
        PotLoans y = Due.told("h0;c1 0;");
        is("9 believed, but not held", y.recants(1), PotLoans.STATE);
    }

    private static void holds() {
        PotLoans x = Due.told("h0;c1 0;c3 1 2;x2 0;");
        is("10 holds(0)", x.holds(0), PotLoans.STATE);
        is("10 holds(1), believed already", x.holds(1), 3);
        is("10 held", x.now(0), 3);
        is("10 holds(2), and what follows", x.holds(2), 15);
        is("10 held", x.now(0), 7);
        is("10 caught", x.now(5), 1);
        is("10 holds(8)", x.holds(8), PotLoans.BAD);
        is("10 what was done", x.count(4), 2);
        for (int wild : WILD) {
            is("10 holds(" + wild + ")", x.holds(wild), PotLoans.BAD);
        }
    }

    private static void undo() {
        PotLoans x = Due.told(FOUR);
        is("11 undo(), none", x.undo(), PotLoans.STATE);
        x.makes(0);
        x.makes(3);
        x.recants(2);
        x.holds(6);
        x.recants(2);
        x.makes(0);
        is("11 undo() of holds", x.undo(), 3);
        is("11 held", x.now(0), 1);
        is("11 undo() of recants", x.undo(), 2);
        is("11 held", x.now(0), 5);
        is("11 refusals", x.now(4), 1);
        is("11 undo() of a refusal", x.undo(), 1);
        is("11 refusals", x.now(4), 0);
        is("11 accepted", x.now(3), 1);
        is("11 undo() of a claim accepted", x.undo(), 0);
        is("11 accepted", x.now(3), 0);
        is("11 held", x.now(0), 4);
        is("11 purse", x.now(2), 60);
        is("11 undo(), none", x.undo(), PotLoans.STATE);
        is("11 it can be made again", x.makes(0), 0);
        PotLoans y = Due.told("");
        for (int i = 0; i < 6; i++) {
            y.holds(i);
            y.recants(i);
        }
        is("11 ten are known", y.count(4), 10);
        for (int left = 9; left >= 0; left--) {
            is("11 undo()", y.undo(), left);
        }
        is("11 older ones are lost", y.undo(), PotLoans.STATE);
        is("11 as it was then", y.now(0), 0);
        PotLoans z = Due.told("");
        for (int i = 0; i < 8; i++) {
            z.holds(i);
        }
        for (int i = 0; i < 5; i++) {
            z.recants(i);
        }
        for (int i = 0; i < 10; i++) {
            z.undo();
        }
        is("11 three are lost", z.now(0), 7);
    }

    private static void steps() {
        PotLoans x = Due.told("h0;c1 0;c2 1;c3 2 0;c3 6;c5;c4 3 5;c4 7;");
        int[] due = {0, 1, 2, 3, 4, 1, PotLoans.NONE, PotLoans.NONE};
        for (int b = 0; b < 8; b++) {
            is("12 steps(" + b + ")", x.steps(b), due[b]);
        }
        x.holds(6);
        is("12 by the shorter clause", x.steps(3), 1);
        is("12 by the greatest", x.steps(4), 2);
        x.holds(4);
        is("12 held", x.steps(4), 0);
        is("12 steps(8)", x.steps(8), PotLoans.BAD);
        for (int wild : WILD) {
            is("12 steps(" + wild + ")", x.steps(wild), PotLoans.BAD);
        }
        PotLoans y = Due.told("c7;c6 7;c5 6;c4 5;c3 4;c2 3;c1 2;c0 1;");
        is("12 as many as can be", y.steps(0), 8);
        PotLoans z = Due.told("c0 1;c1 0;c2 2;");
        is("12 nothing by itself", z.steps(0), PotLoans.NONE);
        is("12 nothing by itself", z.steps(2), PotLoans.NONE);
    }

    private static void would() {
        PotLoans x = Due.told("h7;c1 0;c3 1 2;c6;");
        is("13 would(0), what he holds does not count", x.would(0), 64);
        is("13 would(1)", x.would(1), 67);
        is("13 would(5)", x.would(5), 79);
        is("13 would(4)", x.would(4), 68);
        is("13 would(255)", x.would(255), 255);
        is("13 would(256)", x.would(256), PotLoans.BAD);
        is("13 nothing changes", x.now(0), 128);
        for (int wild : WILD) {
            is("13 would(" + wild + ")", x.would(wild), PotLoans.BAD);
        }
    }

    private static void together() {
        PotLoans x = Due.told("h0;x0 1;x2 3;c4 0;x4 5;");
        is("14 together(0)", x.together(0), 5);
        is("14 together(1), of several the least", x.together(1), 213);
        is("14 together(2)", x.together(2), PotLoans.BAD);
        for (int wild : WILD) {
            is("14 together(" + wild + ")", x.together(wild), PotLoans.BAD);
        }
        PotLoans y = Due.told("c0;c1 0;x1 0;");
        is("14 caught whatever he holds", y.together(0), PotLoans.NONE);
        is("14 caught whatever he holds", y.together(1), PotLoans.NONE);
        PotLoans none = Due.told("c1 0;c0 1;c0 2;c0 3;c0 4;c0 5;c0 6;c0 7;x0 1;");
        is("14 none at all is not caught", none.together(0), 0);
        is("14 none at all is not caught", none.together(1), 0);
        PotLoans z = Due.told("c1 0;c2 1;c3 2;x3 4;x3 5;");
        is("14 with all that follows", z.together(0), 6);
        is("14 without what leads there", z.together(1), 207);
    }

    private static void row() {
        PotLoans x = Due.told("m0 9 1 g2;m0 1 g1;m2 1 3 g4;m0 5 2 4;m0 1 6;m9 1 7 g1;");
        is("15 behind one", x.row(0, -1), 2);
        is("15 of several the first", x.row(0, 0), 1);
        is("15 itself last", x.row(0, 1), 0);
        is("15 not so many", x.row(0, 2), PotLoans.NONE);
        is("15 not so many", x.row(0, Integer.MAX_VALUE), PotLoans.NONE);
        is("15 at once", x.row(1, -1), 1);
        is("15 at once", x.row(1, 0), 1);
        int[] due = {1, 0, 2, 3};
        is("15 behind three", x.row(3, -1), 4);
        for (int i = 0; i < 4; i++) {
            is("15 row(3, " + i + ")", x.row(3, i), due[i]);
        }
        is("15 never", x.row(4, -1), PotLoans.NONE);
        is("15 never", x.row(4, 0), PotLoans.NONE);
        is("15 row(0, -2)", x.row(0, -2), PotLoans.BAD);
        is("15 row(6, -1)", x.row(6, -1), PotLoans.BAD);
        is("15 row(-1, -1)", x.row(-1, -1), PotLoans.BAD);
        x.makes(1);
        is("15 accepted", x.row(1, -1), PotLoans.BAD);
        is("15 fewer now", x.row(3, -1), 3);
        is("15 the accepted one is not needed", x.row(3, 0), 0);
        PotLoans six = Due.told("m1 0 4 g5;m1 2 3 g4;m1 2 2 g3;m1 2 1 g2;m1 2 0 g1;m1 2 g0;");
        is("15 gladly", six.row(0, -1), 1);
        six = Due.told("m2 2 4 g5;m1 2 3 g4;m1 2 2 g3;m1 2 1 g2;m1 2 0 g1;m1 2 g0;");
        is("15 all six", six.row(0, -1), 6);
        for (int i = 0; i < 6; i++) {
            is("15 all six", six.row(0, i), 5 - i);
        }
        PotLoans y = Due.told("m0 5 1;m9 0 2 g1;m0 9 g1;p13;");
        is("15 coins, too", y.row(0, -1), 2);
        is("15 the first has to leave enough", y.row(0, 0), 1);
        PotLoans z = Due.told("m0 9;m0 5;m0 5;m5 0;p5;");
        is("15 given first", z.row(0, 0), 3);
        is("15 unmade ones stay unmade", z.now(3), 0);
    }

    private static void haul() {
        PotLoans x = Due.told("m0 30;m0 20;m0 45;p50;");
        is("16 haul(0)", x.haul(0), 50);
        is("16 haul(1)", x.haul(1), 3);
        is("16 haul(2)", x.haul(2), PotLoans.BAD);
        for (int wild : WILD) {
            is("16 haul(" + wild + ")", x.haul(wild), PotLoans.BAD);
        }
        PotLoans y = Due.told("m1 5;m2 6;m5 5;p4;");
        is("16 of several", y.haul(0), 4);
        is("16 the least", y.haul(1), 1);
        PotLoans z = Due.told("m9 0;m5 5;");
        is("16 nothing to get", z.haul(0), 0);
        is("16 none", z.haul(1), 0);
        PotLoans w = Due.told("x1 2;m5 0 g1;m0 30 1;m3 0 g2;m0 33 2;");
        is("16 one way shuts the other", w.haul(0), 30);
        is("16 one way shuts the other", w.haul(1), 12);
        w.makes(0);
        is("16 from now on", w.haul(0), 30);
        is("16 accepted ones are not in it", w.haul(1), 2);
        w.makes(1);
        is("16 all is had", w.haul(0), 0);
    }

    private static void forbid() {
        PotLoans x = Due.told("m0 30;m0 20;m0 45;p99;");
        is("17 forbid(95)", x.forbid(95), 0);
        is("17 forbid(94)", x.forbid(94), 1);
        is("17 forbid(65)", x.forbid(65), 1);
        is("17 forbid(64)", x.forbid(64), 4);
        is("17 forbid(50)", x.forbid(50), 4);
        is("17 forbid(49)", x.forbid(49), 3);
        is("17 forbid(44)", x.forbid(44), 5);
        is("17 forbid(30)", x.forbid(30), 5);
        is("17 forbid(29)", x.forbid(29), 5);
        is("17 forbid(19)", x.forbid(19), 7);
        is("17 forbid(0)", x.forbid(0), 7);
        is("17 forbid(999)", x.forbid(999), 0);
        is("17 forbid(1000)", x.forbid(1000), PotLoans.BAD);
        is("17 forbid(-1)", x.forbid(-1), PotLoans.BAD);
        for (int wild : WILD) {
            is("17 forbid(" + wild + ")", x.forbid(wild), PotLoans.BAD);
        }
        x.makes(2);
        is("17 accepted ones can't be forbidden", x.forbid(0), 3);
        PotLoans y = Due.told("m1 0 g0;m0 40 0;m0 40 0;");
        is("17 what all rests on", y.forbid(0), 1);
    }

    private static void odds() {
        PotLoans x = Due.told("m1 0 g0;m0 5 0;x0 1;m9 0 3 g1;m0 6 2;p9;");
        fraction(x, 0, 5, 1, 2);
        fraction(x, 0, 4, 2, 5);
        fraction(x, 1, 5, 1, 4);
        fraction(x, 1, 3, 9, 100);
        fraction(x, 2, 5, 1, 4);
        fraction(x, 2, 2, 4, 25);
        fraction(x, 3, 9, 0, 1);
        fraction(x, 0, 0, 0, 1);
        fraction(x, 1, 10, 1, 1);
        fraction(x, 2, 10, 0, 1);
        is("18 x = 11", x.odds(0, 11, 0), PotLoans.BAD);
        is("18 x = -1", x.odds(0, -1, 0), PotLoans.BAD);
        is("18 what = 2", x.odds(0, 5, 2), PotLoans.BAD);
        is("18 what = -1", x.odds(0, 5, -1), PotLoans.BAD);
        is("18 c = 4", x.odds(4, 5, 0), PotLoans.BAD);
        is("18 c = -1", x.odds(-1, 5, 0), PotLoans.BAD);
        x.makes(0);
        fraction(x, 0, 0, 1, 1);
        fraction(x, 0, 7, 1, 1);
        fraction(x, 1, 7, 7, 10);
        is("18 bad, though accepted", x.odds(0, 11, 1), PotLoans.BAD);
        PotLoans y = Due.told("m0 5 1;m1 0 g1;");
        fraction(y, 0, 9, 0, 1);
        PotLoans z = Due.told("m0 3;m0 3;m0 3;m0 3;m0 3;m0 3;p3;");
        fraction(z, 0, 1, 1, 10);
        fraction(z, 5, 1, 59049, 1000000);
    }

    private static void fraction(PotLoans x, int c, int in, int upper, int lower) {
        is("18 odds(" + c + ", " + in + ", 0)", x.odds(c, in, 0), upper);
        is("18 odds(" + c + ", " + in + ", 1)", x.odds(c, in, 1), lower);
    }

    private static void tellsAndForget() {
        PotLoans x = Due.told(FOUR);
        is("20 forget(), nothing", x.forget(), 0);
        is("19 tells(4, 0)", x.tells(4, 0), PotLoans.BAD);
        is("19 tells(0, 5)", x.tells(0, 5), PotLoans.BAD);
        is("19 tells(0, -1)", x.tells(0, -1), PotLoans.BAD);
        is("19 tells(-1, 0)", x.tells(-1, 0), PotLoans.BAD);
        for (int i = 1; i <= 6; i++) {
            is("19 tells()", x.tells(i % 4, i % 5), i);
        }
        is("19 a seventh", x.tells(0, 0), PotLoans.FULL);
        is("19 bad ahead of full", x.tells(0, 5), PotLoans.BAD);
        is("19 count(3)", x.count(3), 6);
        is("20 forget()", x.forget(), 6);
        is("20 count(3)", x.count(3), 0);
        is("20 all can be again", x.believed(0), 192);
        is("19 tells()", x.tells(0, 4), 1);
        x.makes(0);
        is("19 of one accepted, too", x.tells(0, 0), 2);
        is("19 nothing to be undone by it", x.count(4), 1);
    }

    private static void believed() {
        PotLoans x = Due.told("c1 0;x1 2;m0 9 1;m5 0 3 g2;p20;");
        is("21 not caught", x.believed(0), 160);
        is("21 the least", x.believed(1), 0);
        is("21 in all", x.believed(2), 0);
        x.tells(0, 1);
        is("21 he believed 1", x.believed(0), 96);
        is("21 the least", x.believed(1), 1);
        is("21 held in all", x.believed(2), 0);
        x.tells(1, 2);
        is("21 that follows", x.believed(0), 96);
        x.tells(1, 0);
        is("21 can't be", x.believed(0), 0);
        is("21 can't be", x.believed(1), PotLoans.NONE);
        is("21 can't be", x.believed(2), PotLoans.NONE);
        is("21 believed(3)", x.believed(3), PotLoans.BAD);
        for (int wild : WILD) {
            is("21 believed(" + wild + ")", x.believed(wild), PotLoans.BAD);
        }
        x.forget();
        x.tells(1, 1);
        is("21 he held 3", x.believed(0), 32);
        is("21 the least", x.believed(1), 8);
        is("21 in all", x.believed(2), 8);
        PotLoans y = Due.told("m0 30;m0 30;p40;");
        y.makes(0);
        y.tells(1, 1);
        is("21 the purse as told, each first of all", y.believed(0), 256);
        y.tells(0, 1);
        is("21 the purse as told, each first of all", y.believed(0), 256);
        y.tells(0, 3);
        is("21 not too dear", y.believed(0), 0);
    }

    private static void markAndTrace() {
        PotLoans x = Due.told("m7 9 0 1 1 g2 3 3 4;m0 99 7;p9;");
        x.makes(1);
        x.makes(1);
        int[] marks = {7, 9, -2, 18, 1, 9};
        int[] traces = {1, 11, 101, 1011, 10101, 100001};
        long sum = 0;
        for (int kind = 0; kind < 6; kind++) {
            is("22 mark(" + kind + ", 0)", x.mark(kind, 0), marks[kind]);
            sum += traces[kind];
            is("26 trace()", x.trace(), sum);
        }
        is("22 mark(4, 1), below 0", x.mark(4, 1), -99);
        sum += 10101;
        is("22 mark(6, 0)", x.mark(6, 0), PotLoans.NO);
        is("22 mark(-1, 0)", x.mark(-1, 0), PotLoans.NO);
        is("22 mark(0, 2)", x.mark(0, 2), PotLoans.NO);
        for (int wild : WILD) {
            is("22 mark(0, " + wild + ")", x.mark(0, wild), PotLoans.NO);
            is("22 mark(" + wild + ", 0)", x.mark(wild, 0), PotLoans.NO);
        }
        is("26 NO leaves no trace", x.trace(), sum);
        x.keep(0);
        x.undo();
        is("22 refusals undone", x.mark(5, 0), 8);
        x.back(0);
        is("26 not undone, not in an image", x.trace(), sum + 100001);
    }

    private static void images() {
        PotLoans x = Due.told(FOUR);
        is("24 back(0), none", x.back(0), PotLoans.STATE);
        is("23 keep(2)", x.keep(2), PotLoans.BAD);
        is("23 keep(-1)", x.keep(-1), PotLoans.BAD);
        is("24 back(2)", x.back(2), PotLoans.BAD);
        is("24 back(-1)", x.back(-1), PotLoans.BAD);
        x.makes(0);
        x.makes(3);
        is("23 keep(0)", x.keep(0), 64);
        is("24 back(1), none", x.back(1), PotLoans.STATE);
        x.makes(1);
        x.recants(2);
        x.makes(3);
        is("11 undo()", x.undo(), 4);
        x.tells(0, 0);
        x.type(104);
        is("23 keep(1)", x.keep(1), 44);
        x.makes(3);
        is("7 refusals", x.now(4), 2);
        is("24 back(0)", x.back(0), 64);
        is("24 held", x.now(0), 5);
        is("24 accepted", x.now(3), 1);
        is("24 refusals", x.now(4), 1);
        is("24 what may be undone", x.count(4), 2);
        is("24 told stays", x.count(3), 1);
        is("24 the text stays", x.count(5), 1);
        is("24 undo()", x.undo(), 1);
        is("24 undo()", x.undo(), 0);
        is("24 purse", x.now(2), 60);
        is("24 back(1)", x.back(1), 44);
        is("24 held", x.now(0), 33);
        is("24 what may be undone", x.count(4), 4);
        is("24 undo()", x.undo(), 3);
        is("24 held", x.now(0), 37);
        is("24 an image stays", x.back(0), 64);
        is("24 what may be undone", x.count(4), 2);
        x.holds(7);
        is("23 kept anew", x.keep(0), 64);
        x.recants(7);
        x.back(0);
        is("24 the later one", x.now(0), 133);
        is("24 undo(), the same as kept", x.undo(), 2);
        is("24 held", x.now(0), 5);
        PotLoans y = new PotLoans();
        y.holds(1);
        y.holds(2);
        y.keep(0);
        y.undo();
        y.undo();
        y.holds(5);
        y.holds(6);
        y.back(0);
        y.undo();
        is("24 what may be undone is the image's own", y.now(0), 2);
    }

    private static void counts() {
        PotLoans x = Due.told(FOUR);
        x.makes(0);
        x.makes(1);
        x.tells(0, 0);
        Due.type(x, "h12");
        int[] due = {1, 1, 4, 1, 2, 3};
        for (int what = 0; what < due.length; what++) {
            is("25 count(" + what + ")", x.count(what), due[what]);
        }
        is("25 count(6)", x.count(6), PotLoans.BAD);
        for (int wild : WILD) {
            is("25 count(" + wild + ")", x.count(wild), PotLoans.BAD);
        }
    }
}
