/** The document once more from its first line: one run through all it tells, and the sentences that have no rows elsewhere. */
public final class DocumentTest {
    private static final Due DUE = new Due("DocumentTest");
    private static final int NONE = PotLoans.NONE, STATE = PotLoans.STATE, BAD = PotLoans.BAD;
    /** Claims 0 and 2 shut each other out: by 0 he must believe 2, which clashes with what the other grants. */
    private static final String STORY = "h0;c1 0;c2 1 3;x4 2;m6 2 5 g3;m0 30 2 g5;m9 1 g4;m0 99 6;p40;";

    public static void main(String[] args) {
        story();
        readme();
        objectsForThemselves();
        clausesAndClashes();
        madeAndAccepted();
        recantedAndHeld();
        stepsBehindClaims();
        haulOfAllRows();
        forbidAsBits();
        kinds();
        DUE.end();
    }

    private static void is(String call, long got, long want) {
        DUE.is(call, got, want);
    }

    private static void nowIs(PotLoans x, int... due) {
        for (int what = 0; what < due.length; what++) {
            is("now(" + what + ")", x.now(what), due[what]);
        }
    }

    private static void countsAre(PotLoans x, int... due) {
        for (int what = 0; what < due.length; what++) {
            is("count(" + what + ")", x.count(what), due[what]);
        }
    }

    // ---- one object from its beginning, by all calls

    private static void story() {
        DUE.sentence("Your pot has had a child");
        PotLoans x = new PotLoans();
        toldByAText(x);
        whatFollows(x);
        rowsOfClaims(x);
        whatHeBelieved(x);
        whatIsDone(x);
        kindsOfClaims(x);
        takenBackAndUndone(x);
        imagesAndReadAnew(x);
    }

    private static void toldByAText(PotLoans x) {
        for (int i = 0; i < STORY.length(); i++) {
            is("type(" + STORY.charAt(i) + ")", x.type(STORY.charAt(i)), i + 1);
        }
        is("village()", x.village(), 9);
        countsAre(x, 2, 1, 4, 0, 0, 0);
        nowIs(x, 1, 3, 40, 0, 0, 0, 5);
        int[][] claims = {{6, 2, 32, 8, 0, 0}, {0, 30, 4, 32, 0, 4}, {9, 1, 0, 16, 0, 1}, {0, 99, 64, 0, 0, 3}};
        for (int c = 0; c < claims.length; c++) {
            for (int what = 0; what < 6; what++) {
                is("claim(" + c + ", " + what + ")", x.claim(c, what), claims[c][what]);
            }
        }
        int[][] clauses = {{1, 1, 1}, {2, 10, 0}};
        for (int c = 0; c < clauses.length; c++) {
            for (int what = 0; what < 3; what++) {
                is("clause(" + c + ", " + what + ")", x.clause(c, what), clauses[c][what]);
            }
        }
    }

    private static void whatFollows(PotLoans x) {
        int[] steps = {0, 1, NONE, NONE, NONE, NONE, NONE, NONE};
        for (int b = 0; b < steps.length; b++) {
            is("steps(" + b + ")", x.steps(b), steps[b]);
        }
        is("would(8)", x.would(8), 8);
        is("would(9)", x.would(9), 15);
        is("together(0)", x.together(0), 7);
        is("together(1)", x.together(1), 239);
    }

    private static void rowsOfClaims(PotLoans x) {
        int[][] rows = {{0}, {0, 1}, {2}, {}};
        for (int c = 0; c < rows.length; c++) {
            is("row(" + c + ", -1)", x.row(c, -1), rows[c].length == 0 ? NONE : rows[c].length);
            for (int i = 0; i < 3; i++) {
                is("row(" + c + ", " + i + ")", x.row(c, i), i < rows[c].length ? rows[c][i] : NONE);
            }
        }
        is("haul(0)", x.haul(0), 26);
        is("haul(1)", x.haul(1), 3);
        is("forbid(26)", x.forbid(26), 0);
        is("forbid(25)", x.forbid(25), 1);
        is("forbid(0)", x.forbid(0), 1);
        oddsAre(x, 0, 5, 1, 2);
        oddsAre(x, 1, 5, 1, 4);
        oddsAre(x, 2, 5, 1, 4);
        oddsAre(x, 3, 5, 0, 1);
        oddsAre(x, 1, 3, 9, 100);
        oddsAre(x, 2, 3, 21, 100);
    }

    private static void oddsAre(PotLoans x, int c, int in, int upper, int lower) {
        is("odds(" + c + ", " + in + ", 0)", x.odds(c, in, 0), upper);
        is("odds(" + c + ", " + in + ", 1)", x.odds(c, in, 1), lower);
    }

    private static void whatHeBelieved(PotLoans x) {
        is("believed(0), not caught", x.believed(0), 168);
        is("tells(0, 0)", x.tells(0, 0), 1);
        is("believed(0), gladly", x.believed(0), 72);
        is("tells(1, 1)", x.tells(1, 1), 2);
        is("believed(0), can't refuse", x.believed(0), 44);
        is("tells(2, 2)", x.tells(2, 2), 3);
        is("tells(3, 3)", x.tells(3, 3), 4);
        is("believed(0), all is so", x.believed(0), 44);
        is("believed(1)", x.believed(1), 4);
        is("believed(2)", x.believed(2), 0);
        is("count(3)", x.count(3), 4);
    }

    private static void whatIsDone(PotLoans x) {
        is("keep(0)", x.keep(0), 40);
        is("makes(3), too dear", x.makes(3), 3);
        is("makes(1), nothing in it", x.makes(1), 4);
        is("makes(0), gladly", x.makes(0), 0);
        nowIs(x, 9, 15, 44, 1, 2, 0, 2);
        is("makes(2), he would be caught", x.makes(2), 2);
        is("makes(1), he can't refuse", x.makes(1), 1);
        nowIs(x, 41, 47, 14, 3, 3, 0, 0);
        is("count(4)", x.count(4), 5);
        is("clause(1, 2)", x.clause(1, 2), 1);
        is("steps(2)", x.steps(2), 2);
        is("steps(5)", x.steps(5), 0);
        is("claim(0, 4)", x.claim(0, 4), 1);
        is("claim(0, 5)", x.claim(0, 5), 5);
        is("claim(2, 5)", x.claim(2, 5), 2);
        is("row(0, -1), accepted", x.row(0, -1), BAD);
        oddsAre(x, 0, 5, 1, 1);
        oddsAre(x, 2, 5, 0, 1);
        is("haul(0), all is had", x.haul(0), 0);
        is("keep(1)", x.keep(1), 14);
    }

    private static void kindsOfClaims(PotLoans x) {
        int[] claims = {0, 1, 1, 1, 1, 2};
        int[] marks = {6, 1, -30, 2, -29, 12};
        long[] traces = {1, 12, 113, 1124, 11225, 111226};
        for (int kind = 0; kind < 6; kind++) {
            is("mark(" + kind + ", " + claims[kind] + ")", x.mark(kind, claims[kind]), marks[kind]);
            is("trace()", x.trace(), traces[kind]);
        }
    }

    private static void takenBackAndUndone(PotLoans x) {
        is("recants(3)", x.recants(3), 33);
        nowIs(x, 33, 35, 14, 3, 3, 0, 4);
        is("makes(2), not caught now", x.makes(2), 1);
        is("holds(3), caught", x.holds(3), 63);
        nowIs(x, 57, 63, 22, 7, 3, 1, 0);
        is("undo()", x.undo(), 7);
        nowIs(x, 49, 51, 22, 7, 3, 0, 0);
        is("undo()", x.undo(), 6);
        nowIs(x, 33, 35, 14, 3, 3, 0, 4);
        is("undo()", x.undo(), 5);
        nowIs(x, 41, 47, 14, 3, 3, 0, 0);
    }

    private static void imagesAndReadAnew(PotLoans x) {
        is("back(0)", x.back(0), 40);
        nowIs(x, 1, 3, 40, 0, 0, 0, 5);
        countsAre(x, 2, 1, 4, 4, 0, 0);
        is("back(1)", x.back(1), 14);
        nowIs(x, 41, 47, 14, 3, 3, 0, 0);
        countsAre(x, 2, 1, 4, 4, 5, 0);
        is("undo()", x.undo(), 4);
        is("now(2)", x.now(2), 44);
        is("forget()", x.forget(), 4);
        is("believed(0)", x.believed(0), 168);
        is("type(q)", x.type('q'), 1);
        is("clear()", x.clear(), 1);
        is("village(), read anew", Due.village(x, "p7;"), 1);
        nowIs(x, 0, 0, 7, 0, 0, 0, 0);
        countsAre(x, 0, 0, 0, 0, 0, 0);
        is("back(0)", x.back(0), STATE);
        is("trace()", x.trace(), 111226);
    }

    private static void readme() {
        DUE.sentence("README.md: Use");
        PotLoans x = new PotLoans();
        is("village()", Due.village(x, "h2;c1 0;m5 1 4 g0;m0 20 1;p60;"), 5);
        is("row(1, -1)", x.row(1, -1), 2);
        is("makes(0)", x.makes(0), 0);
        is("makes(1)", x.makes(1), 1);
        is("now(2)", x.now(2), 44);
        is("undo()", x.undo(), 1);
    }

    private static void objectsForThemselves() {
        DUE.sentence("A new object");
        PotLoans x = Due.told("h0;c1 0;x0 2;m5 1 g3;m0 99;p9;");
        PotLoans y = Due.told("h7;m0 9 7;");
        x.makes(0);
        x.makes(1);
        x.tells(0, 1);
        x.keep(0);
        x.mark(0, 0);
        x.type('h');
        nowIs(y, 128, 128, 50, 0, 0, 0, 1);
        countsAre(y, 0, 0, 1, 0, 0, 0);
        is("trace()", y.trace(), 0);
        is("back(0)", y.back(0), STATE);
        is("would(1)", y.would(1), 1);
        is("haul(0)", y.haul(0), 9);
        nowIs(x, 9, 11, 13, 1, 1, 0, 0);
        countsAre(x, 1, 1, 2, 1, 2, 1);
        nowIs(new PotLoans(), 0, 0, 50, 0, 0, 0, 0);
    }

    // ---- 1

    private static void clausesAndClashes() {
        DUE.sentence("who BELIEVES all of some BELIEFS must believe one more");
        PotLoans x = Due.told("c7 0 1;h0;");
        is("now(1), one of two", x.now(1), 1);
        is("holds(1), both", x.holds(1), 131);
        is("recants(0)", x.recants(0), 2);
        is("now(1), the other of two", x.now(1), 2);
        DUE.sentence("two unlike BELIEFS that can't both be believed");
        for (int a = 0; a < 8; a++) {
            for (int b = 0; b < 8; b++) {
                PotLoans y = Due.told("x3 6;h" + a + " " + b + ";");
                boolean both = a == 3 && b == 6 || a == 6 && b == 3;
                is("now(5), " + a + " and " + b, y.now(5), both ? 1 : 0);
            }
        }
    }

    // ---- 2

    private static void madeAndAccepted() {
        DUE.sentence("MADE: a CLAIM that was not accepted yet. Is it taken gladly, or can't he refuse it, it is ACCEPTED");
        PotLoans x = Due.told("h0;x0 1;m5 0 2 g3;m0 5 0 g4;m9 0 g1 5;m0 99 g6;m0 0 2 g7;p9;");
        for (int c = 0; c < 5; c++) {
            is("makes(" + c + ")", x.makes(c), c);
        }
        nowIs(x, 25, 25, 9, 3, 3, 0, 0);
        for (int c = 0; c < 5; c++) {
            is("makes(" + c + ") again", x.makes(c), c < 2 ? STATE : c);
        }
        nowIs(x, 25, 25, 9, 3, 6, 0, 0);
        is("count(4)", x.count(4), 8);
    }

    private static void recantedAndHeld() {
        DUE.sentence("RECANTED: he does not HOLD a BELIEF any more.");
        PotLoans x = Due.told("h0 2;c1 0;c2 1;m0 1 0 g0 3;");
        is("recants(2)", x.recants(2), 1);
        is("now(1), he must believe it still", x.now(1), 7);
        is("steps(2)", x.steps(2), 2);
        is("makes(0)", x.makes(0), 1);
        is("recants(3), granted by a claim", x.recants(3), 1);
        is("recants(0)", x.recants(0), 0);
        nowIs(x, 0, 0, 49, 1, 0, 0, 0);
        is("makes(0), accepted still", x.makes(0), STATE);
        DUE.sentence("HELD anew: he HOLDS one.");
        PotLoans y = Due.told("x0 1;h0;c2 1;");
        is("holds(1), though it catches him", y.holds(1), 7);
        nowIs(y, 3, 7, 50, 0, 0, 1, 0);
        is("holds(2), believed already", y.holds(2), 7);
        nowIs(y, 7, 7, 50, 0, 0, 1, 0);
        is("recants(1)", y.recants(1), 5);
        nowIs(y, 5, 5, 50, 0, 0, 0, 0);
    }

    // ---- 3

    private static void stepsBehindClaims() {
        DUE.sentence("STEPS of a BELIEF: 0 if he HOLDS it");
        PotLoans x = Due.told("h0;c1 0;c2 1;c3 2;m0 0 g2;");
        stepsAre(x, 0, 1, 2, 3, NONE);
        x.makes(0);
        stepsAre(x, 0, 1, 0, 1, NONE);
        x.recants(0);
        stepsAre(x, NONE, NONE, 0, 1, NONE);
        x.undo();
        x.undo();
        stepsAre(x, 0, 1, 2, 3, NONE);
    }

    private static void stepsAre(PotLoans x, int... due) {
        for (int b = 0; b < due.length; b++) {
            is("steps(" + b + ")", x.steps(b), due[b]);
        }
    }

    private static void haulOfAllRows() {
        DUE.sentence("HAUL: of all rows of CLAIMS each of which is ACCEPTED that by which the borrower gets most");
        PotLoans x = Due.told("m0 30 1;m0 20 0 g1;m3 1 5 g0;p50;");
        is("haul(0), the last told first", x.haul(0), 48);
        is("haul(1)", x.haul(1), 7);
        is("now(2), nothing is changed", x.now(2), 50);
        PotLoans y = Due.told("x1 2;m0 9 g1;m0 8 g2;m0 7 2;p99;");
        is("haul(0), the greatest at first is not the most", y.haul(0), 15);
        is("haul(1)", y.haul(1), 6);
        y.makes(0);
        is("haul(0), shut out", y.haul(0), 0);
        is("haul(1)", y.haul(1), 0);
    }

    private static void forbidAsBits() {
        DUE.sentence("FORBID, as bits. BAD.");
        PotLoans x = Due.told("x1 2;m0 9 g1;m0 8 g2;m0 7 2;p99;");
        is("forbid(15)", x.forbid(15), 0);
        is("forbid(14)", x.forbid(14), 2);
        is("forbid(9)", x.forbid(9), 2);
        is("forbid(8), the third rests on the second", x.forbid(8), 3);
        is("forbid(0)", x.forbid(0), 3);
        is("forbid(-1)", x.forbid(-1), BAD);
        is("forbid(1000)", x.forbid(1000), BAD);
    }

    // ---- 4

    private static void kinds() {
        DUE.sentence("KINDS of CLAIMS are over one another: 0 CLAIM; 1 POT, 2 HEN, 5 JEST (each under CLAIM); "
            + "3 COPPER (under POT); 4 EGG (under HEN).");
        for (int kind = 0; kind < 6; kind++) {
            is("mark(" + kind + ", 0), all is 0", Due.told("m0 0;").mark(kind, 0), 0);
        }
        kind("CLAIM what it GIVES (1).", 0, 7, 1);
        kind("POT up, and on how many BELIEFS it RESTS (10).", 1, 10, 11);
        kind("HEN up less what it TAKES (100).", 2, 4, 101);
        kind("COPPER up times 2 (1000).", 3, 20, 1011);
        kind("EGG up, and how many BELIEFS it GRANTS (10000).", 4, 6, 10101);
        kind("JEST up, and REFUSALS (100000).", 5, 9, 100001);
    }

    private static void kind(String words, int kind, int mark, int trace) {
        DUE.sentence(words);
        PotLoans x = Due.told("m7 3 0 1 2 g4 5;m0 99 6;p9;");
        x.makes(1);
        x.makes(1);
        is("mark(" + kind + ", 0)", x.mark(kind, 0), mark);
        is("trace()", x.trace(), trace);
        is("mark(" + kind + ", 0), accepted or not", acceptedMark(x, kind), mark);
        is("trace()", x.trace(), trace * 2L);
    }

    private static int acceptedMark(PotLoans x, int kind) {
        x.holds(0);
        x.holds(1);
        x.holds(2);
        x.makes(0);
        return x.mark(kind, 0);
    }
}
