/** The boundary cases of what the document's terms mean: beliefs, claims, rows, odds, kinds, images. */
public final class TermsBoundsTest {
    private static final Due DUE = new Due("TermsBoundsTest");
    private static final int NONE = PotLoans.NONE;

    public static void main(String[] args) {
        held();
        believes();
        caught();
        tooDear();
        wouldBeCaught();
        canNotRefuse();
        gladly();
        firstOfHow();
        accepted();
        refused();
        undone();
        asAheadOfIt();
        steps();
        would();
        rowFewest();
        rowFirst();
        haul();
        haulLeast();
        together();
        forbid();
        told();
        toldFirstOfAll();
        believed();
        odds();
        marks();
        noBelowZero();
        traces();
        images();
        imagesAndUndo();
        DUE.end();
    }

    private static void is(String call, long got, long want) {
        DUE.is(call, got, want);
    }

    private static void makeAll(PotLoans x, int... claims) {
        for (int c : claims) {
            x.makes(c);
        }
    }

    private static void held() {
        DUE.sentence("each HELD by THE LENDER or not (none at first, but as told)");
        is("now(0), a new object", new PotLoans().now(0), 0);
        is("now(0), not told", Due.told("p9;m9 9 g1;").now(0), 0);
        PotLoans x = new PotLoans();
        int held = 0;
        for (int b = 0; b < 8; b++) {
            is("now(0), as told", Due.told("h" + b + ";").now(0), 1 << b);
            held |= 1 << b;
            x.holds(b);
            is("now(0), holds(" + b + ")", x.now(0), held);
        }
        for (int b = 0; b < 8; b++) {
            held &= ~(1 << b);
            is("recants(" + b + ")", x.recants(b), held);
        }
    }

    // ---- 2

    private static void believes() {
        DUE.sentence("HE BELIEVES what he HOLDS and what he must believe by CLAUSES, as long as there is more.");
        is("none", new PotLoans().now(1), 0);
        is("no clauses", Due.told("h0 7;").now(1), 129);
        is("a clause on none", Due.told("c7;").now(1), 128);
        is("a clause on all", Due.told("c7 0 1 2 3 4 5 6;h0 1 2 3 4 5 6;").now(1), 255);
        is("a clause on all but one", Due.told("c7 0 1 2 3 4 5 6;h0 1 2 3 4 5;").now(1), 63);
        is("one behind another", Due.told("h0;c1 0;c2 1;c3 2;c4 3;c5 4;c6 5;c7 6;").now(1), 255);
        is("the last told first", Due.told("h0;c7 6;c6 5;c5 4;c4 3;c3 2;c2 1;c1 0;").now(1), 255);
        is("eight behind another", Due.told("c7 6;c6 5;c5 4;c4 3;c3 2;c2 1;c1 0;c0;").now(1), 255);
        is("a ring, not held", Due.told("c0 1;c1 0;").now(1), 0);
        is("a ring, held", Due.told("h1;c0 1;c1 0;").now(1), 3);
        is("by itself", Due.told("c3 3;").now(1), 0);
    }

    private static void caught() {
        DUE.sentence("CAUGHT: he BELIEVES two that CLASH.");
        is("none", new PotLoans().now(5), 0);
        is("one", Due.told("x0 1;h0 2 3 4 5 6 7;").now(5), 0);
        is("the other", Due.told("x0 1;h1 2 3 4 5 6 7;").now(5), 0);
        is("both", Due.told("x0 1;h0 1;").now(5), 1);
        is("one by a clause", Due.told("x0 1;h0;c1 0;").now(5), 1);
        is("both by clauses", Due.told("x0 1;c0;c1;").now(5), 1);
        is("all, no clash", Due.told("h0 1 2 3 4 5 6 7;").now(5), 0);
        is("the first of eight", Due.told("x6 7;x0 1;x0 1;x0 1;x0 1;x0 1;x0 1;x0 1;h6 7;").now(5), 1);
        is("the last of eight", Due.told("x0 1;x0 1;x0 1;x0 1;x0 1;x0 1;x0 1;x6 7;h6 7;").now(5), 1);
        is("one of each of two", Due.told("x0 1;x2 3;h0 2;").now(5), 0);
    }

    private static void howIs(String text, int c, int how) {
        PotLoans x = Due.told(text);
        is("claim(" + c + ", 5) of " + text, x.claim(c, 5), how);
        is("now(6) of " + text, x.now(6) >> c & 1, how < 2 ? 1 : 0);
        is("makes(" + c + ") of " + text, x.makes(c), how);
        is("now(3) of " + text, x.now(3), how < 2 ? 1 << c : 0);
        is("now(4) of " + text, x.now(4), how < 2 ? 0 : 1);
    }

    private static void tooDear() {
        DUE.sentence("3 he refuses: it takes more than he has (PURSE and what it GIVES)");
        howIs("m0 50;", 0, 1);
        howIs("m0 51;", 0, 3);
        howIs("m0 0;p0;", 0, 1);
        howIs("m0 1;p0;", 0, 3);
        howIs("m1 1;p0;", 0, 1);
        howIs("m1 2;p0;", 0, 3);
        howIs("m9 99;p90;", 0, 1);
        howIs("m8 99;p90;", 0, 3);
        howIs("m0 99;p99;", 0, 1);
        howIs("m0 99;p98;", 0, 3);
        howIs("m99 99;p0;", 0, 1);
        howIs("m98 99;p0;", 0, 3);
        PotLoans x = Due.told("m0 7;m0 3;m0 4;p10;");
        makeAll(x, 0);
        is("makes(2), by what is left", x.makes(2), 3);
        is("makes(1), all that is left", x.makes(1), 1);
        is("now(2)", x.now(2), 0);
        PotLoans y = Due.told("m99 0;m99 0;m0 99;m0 99;m0 99;m0 1;p98;");
        makeAll(y, 0, 1, 2, 3);
        is("now(2), it was above 99", y.now(2), 98);
        is("makes(4)", y.makes(4), 3);
        is("makes(5)", y.makes(5), 1);
    }

    private static void wouldBeCaught() {
        DUE.sentence("2 he refuses: he would be CAUGHT, if he HELD what it GRANTS, too");
        howIs("x0 1;h0;m9 0 g1;", 0, 2);
        howIs("x0 1;h0;m9 0 g2;", 0, 1);
        howIs("x0 1;m9 0 g0 1;", 0, 2);
        howIs("x0 1;m9 0 g0;", 0, 1);
        howIs("x0 1;c1 2;h0;m9 0 g2;", 0, 2);
        howIs("x0 1;h0 1;m9 0;", 0, 2);
        howIs("x0 1;c1 2 3;h0 2;m9 0 g3;", 0, 2);
        howIs("x0 1;c1 2 3;h0;m9 0 g3;", 0, 1);
    }

    private static void canNotRefuse() {
        DUE.sentence("1 he can not refuse: he BELIEVES all on which it RESTS");
        howIs("m0 1;", 0, 1);
        howIs("m0 1 0;", 0, 4);
        howIs("m0 1 0;h0;", 0, 1);
        howIs("m0 1 0 7;h0;", 0, 4);
        howIs("m0 1 0 7;h0 7;", 0, 1);
        howIs("m0 1 0 7;h0;c7 0;", 0, 1);
        howIs("m0 1 0 1 2 3 4 5 6 7;h0 1 2 3 4 5 6 7;", 0, 1);
        howIs("m0 1 0 1 2 3 4 5 6 7;h1 2 3 4 5 6 7;", 0, 4);
        howIs("m0 1 0 g0;", 0, 4);
        howIs("m0 0;", 0, 1);
    }

    private static void gladly() {
        DUE.sentence("0 gladly: it GIVES more than it TAKES; 4 he refuses: there is nothing in it");
        howIs("m1 0 0;", 0, 0);
        howIs("m0 0 0;", 0, 4);
        howIs("m0 1 0;", 0, 4);
        howIs("m99 98 0;", 0, 0);
        howIs("m99 99 0;", 0, 4);
        howIs("m98 99 0;", 0, 4);
        howIs("m1 0 0;p0;", 0, 0);
    }

    private static void firstOfHow() {
        DUE.sentence("(the first of 3, 2, 1, 0, 4)");
        howIs("m0 9 0 g1;h0;x0 1;p8;", 0, 3);
        howIs("m0 9 2 g1;h0;x0 1;p8;", 0, 3);
        howIs("m0 9 0;h0;p8;", 0, 3);
        howIs("m0 9 2;h0;p8;", 0, 3);
        howIs("m9 0 0 g1;h0;x0 1;p8;", 0, 2);
        howIs("m9 0 2 g1;h0;x0 1;p8;", 0, 2);
        howIs("m0 8 0 g1;h0;x0 1;p8;", 0, 2);
        howIs("m0 8 2 g1;h0;x0 1;p8;", 0, 2);
        howIs("m9 0 0 g2;h0;x0 1;p8;", 0, 1);
        howIs("m0 8 0 g2;h0;x0 1;p8;", 0, 1);
        howIs("m9 0 2 g2;h0;x0 1;p8;", 0, 0);
        howIs("m0 8 2 g2;h0;x0 1;p8;", 0, 4);
    }

    private static void accepted() {
        DUE.sentence("it is ACCEPTED: he HOLDS what it GRANTS, too; his PURSE has what it GIVES more, what it TAKES less");
        PotLoans x = Due.told("h0;m3 9 g0 7;m99 0 5 g;m0 0 g1 2 3 4 5 6;p6;");
        is("makes(0)", x.makes(0), 1);
        is("now(0), one was held, one is new", x.now(0), 129);
        is("now(2), nothing is left", x.now(2), 0);
        is("makes(1), gladly", x.makes(1), 0);
        is("now(0), nothing is granted", x.now(0), 129);
        is("now(2)", x.now(2), 99);
        is("makes(2)", x.makes(2), 1);
        is("now(0), all", x.now(0), 255);
        is("now(2), nothing given or taken", x.now(2), 99);
        is("now(3)", x.now(3), 7);
        is("now(4)", x.now(4), 0);
        PotLoans y = Due.told("m99 0;m99 0;m99 0;m99 0;m99 0;m99 0;p99;");
        makeAll(y, 0, 1, 2, 3, 4, 5);
        is("now(2), the most that can be", y.now(2), 693);
    }

    private static void refused() {
        DUE.sentence("Refused, it is counted (REFUSALS; 999 at most).");
        PotLoans x = Due.told("h0;x0 1;m0 9 g2;m9 0 g1;m0 0 5 g3;p8;");
        is("makes(0)", x.makes(0), 3);
        is("makes(1)", x.makes(1), 2);
        is("makes(2)", x.makes(2), 4);
        is("makes(2), again", x.makes(2), 4);
        is("now(4)", x.now(4), 4);
        is("now(0)", x.now(0), 1);
        is("now(2)", x.now(2), 8);
        is("now(3)", x.now(3), 0);
        is("count(4)", x.count(4), 4);
        x.makes(3);
        x.makes(-1);
        is("now(4), no claim is none refused", x.now(4), 4);
    }

    private static void undone() {
        DUE.sentence("UNDONE: the latest MADE, RECANTED, HELD anew (10 are known, older ones are lost)");
        for (int deeds = 0; deeds <= 12; deeds++) {
            PotLoans x = Due.told("m0 9;p8;");
            for (int i = 0; i < deeds; i++) {
                x.makes(0);
            }
            int known = Math.min(deeds, 10);
            is("count(4) behind " + deeds, x.count(4), known);
            for (int left = known - 1; left >= 0; left--) {
                is("undo() behind " + deeds, x.undo(), left);
                is("count(4)", x.count(4), left);
                is("now(4)", x.now(4), deeds - known + left);
            }
            is("undo(), none is left of " + deeds, x.undo(), PotLoans.STATE);
            is("now(4), what is lost stays", x.now(4), deeds - known);
            is("makes(0)", x.makes(0), 3);
            is("undo(), known again", x.undo(), 0);
        }
        DUE.sentence("UNDONE: how many more may be. STATE: none.");
        PotLoans x = new PotLoans();
        is("undo()", x.undo(), PotLoans.STATE);
        x.holds(8);
        x.recants(0);
        x.makes(0);
        is("undo(), what was refused by the object is nothing done", x.undo(), PotLoans.STATE);
        x.holds(0);
        is("undo()", x.undo(), 0);
        is("undo()", x.undo(), PotLoans.STATE);
    }

    private static void asAheadOfIt() {
        DUE.sentence("all is as ahead of it");
        PotLoans x = Due.told("h0 4;m9 2 g1 2;m0 99;m0 5 1 g2 3;p20;");
        makeAll(x, 1, 0, 2);
        x.recants(1);
        x.holds(7);
        x.makes(1);
        int[][] due = {{157, 22, 5, 1}, {29, 22, 5, 1}, {31, 22, 5, 1}, {23, 27, 1, 1}, {17, 20, 0, 1}, {17, 20, 0, 0}};
        for (int i = 0; i < due.length; i++) {
            is("undo()", x.undo(), due.length - 1 - i);
            is("now(0)", x.now(0), due[i][0]);
            is("now(2)", x.now(2), due[i][1]);
            is("now(3)", x.now(3), due[i][2]);
            is("now(4)", x.now(4), due[i][3]);
        }
        is("makes(0), it can be made again", x.makes(0), 1);
    }

    // ---- 3

    private static void steps() {
        DUE.sentence("0 if he HOLDS it; else one more than the greatest of those by which he must believe it, "
            + "by the clause by which that is least; NONE: he does not BELIEVE it.");
        is("held", Due.told("h0;").steps(0), 0);
        is("held, and by a clause", Due.told("h0;c0;").steps(0), 0);
        is("not believed", Due.told("h0;").steps(1), NONE);
        is("by a clause on none", Due.told("c7;").steps(7), 1);
        is("by one held", Due.told("h0;c7 0;").steps(7), 1);
        is("by itself", Due.told("c7 7;").steps(7), NONE);
        is("by a ring", Due.told("c7 6;c6 7;").steps(7), NONE);
        is("the greatest of several", Due.told("h0;c1 0;c2 1;c3 0 1 2;").steps(3), 3);
        is("one of several is not believed", Due.told("h0;c1 0;c2 1;c3 0 1 4;").steps(3), NONE);
        is("the least of two clauses", Due.told("h0;c1 0;c2 1;c3 2;c3 1;").steps(3), 2);
        is("told the other way round", Due.told("h0;c3 1;c3 2;c2 1;c1 0;").steps(3), 2);
        is("a later clause with fewer steps, but more to believe", Due.told("h0 4 5;c1 0;c3 1;c3 0 4 5;").steps(3), 1);
        PotLoans x = Due.told("c7;c6 7;c5 6;c4 5;c3 4;c2 3;c1 2;c0 1;");
        for (int b = 0; b < 8; b++) {
            is("steps(" + b + ") of eight", x.steps(b), 8 - b);
        }
    }

    private static void would() {
        DUE.sentence("WOULD: what he BELIEVED, if he HELD a set (bits).");
        PotLoans x = Due.told("h0 1;c7;c6 5;c4 0 1 2 3 5 6 7;");
        is("would(0), none", x.would(0), 128);
        is("would(255), all", x.would(255), 255);
        is("would(32)", x.would(32), 224);
        is("would(47)", x.would(47), 255);
        is("would(46)", x.would(46), 238);
        is("now(0), nothing is changed", x.now(0), 3);
        PotLoans y = Due.told("x0 1;");
        is("would(3), caught", y.would(3), 3);
        is("now(5)", y.now(5), 0);
    }

    private static void rowIs(PotLoans x, int c, int... due) {
        is("row(" + c + ", -1)", x.row(c, -1), due.length == 0 ? NONE : due.length);
        for (int i = 0; i < due.length; i++) {
            is("row(" + c + ", " + i + ")", x.row(c, i), due[i]);
        }
        for (int i = due.length; i <= 7; i++) {
            is("row(" + c + ", " + i + "), not so many", x.row(c, i), NONE);
        }
    }

    private static void rowFewest() {
        DUE.sentence("ROW to a CLAIM: the fewest CLAIMS that, MADE one behind another, are each ACCEPTED, the told one last");
        rowIs(Due.told("m0 1;"), 0, 0);
        rowIs(Due.told("m1 0 7;"), 0, 0);
        rowIs(Due.told("m0 1 7;"), 0);
        rowIs(Due.told("m0 51;"), 0);
        rowIs(Due.told("m0 51;m1 0;"), 0, 1, 0);
        rowIs(Due.told("m0 1 0;m0 1 g0;"), 0, 1, 0);
        rowIs(Due.told("m0 1 0;m0 51 g0;"), 0);
        rowIs(Due.told("m0 0 4;m0 0 3 g4;m0 0 2 g3;m0 0 1 g2;m0 0 0 g1;m0 0 g0;"), 0, 5, 4, 3, 2, 1, 0);
        rowIs(Due.told("m0 0 5;m0 0 3 g4;m0 0 2 g3;m0 0 1 g2;m0 0 0 g1;m0 0 g0;"), 0);
        rowIs(Due.told("m0 0 2;m0 0 g0;m0 0 0 g1;m0 0 1 g2;m0 0 0 g2;"), 0, 1, 4, 0);
        PotLoans x = Due.told("x0 1;h1;m0 0 0;m0 0 g0;");
        rowIs(x, 0);
        x.recants(1);
        rowIs(x, 0, 1, 0);
        x.makes(1);
        rowIs(x, 0, 0);
        is("row(1, -1), accepted", x.row(1, -1), PotLoans.BAD);
    }

    private static void rowFirst() {
        DUE.sentence("how many; the i-th, of several rows the first (by numbers); NONE.");
        rowIs(Due.told("m0 0 0 1;m0 0 g0;m0 0 g1;"), 0, 1, 2, 0);
        rowIs(Due.told("m0 0 0 1;m0 0 g1;m0 0 g0;"), 0, 1, 2, 0);
        rowIs(Due.told("m0 0 g0;m0 0 g0;m0 0 0;"), 2, 0, 2);
        rowIs(Due.told("m0 0 g1;m0 0 0;m0 0 g0;m0 0 1 g0;"), 1, 2, 1);
        rowIs(Due.told("m0 0 0 g1;m0 0 g0;m0 0 0 g1;m0 0 1;m0 0 g0;"), 3, 1, 0, 3);
        rowIs(Due.told("m0 0 g0 1;m0 0 0 g3;m0 0 1 g2;m0 0 2 3;"), 3, 0, 1, 2, 3);
        rowIs(Due.told("m0 0 0 1 2 3 4;m0 0 g4;m0 0 g3;m0 0 g2;m0 0 g1;m0 0 g0;"), 0, 1, 2, 3, 4, 5, 0);
    }

    private static void haulIs(PotLoans x, int much, int which) {
        is("haul(0)", x.haul(0), much);
        is("haul(1)", x.haul(1), which);
    }

    private static void haul() {
        DUE.sentence("(what is TAKEN less what is GIVEN, together; 0 at least: none)");
        haulIs(new PotLoans(), 0, 0);
        haulIs(Due.told("m1 0;"), 0, 0);
        haulIs(Due.told("m1 1;"), 0, 0);
        haulIs(Due.told("m0 1;"), 1, 1);
        haulIs(Due.told("m0 99;p99;"), 99, 1);
        haulIs(Due.told("m0 99;p98;"), 0, 0);
        haulIs(Due.told("m0 50;m0 50;p99;"), 50, 1);
        haulIs(Due.told("m0 50;m0 49;p99;"), 99, 3);
        haulIs(Due.told("m9 0 g0;m0 9 0;"), 0, 0);
        haulIs(Due.told("m9 0 g0;m0 10 0;"), 1, 3);
        haulIs(Due.told("m0 40;m0 40;m0 40;p50;"), 40, 1);
        PotLoans x = Due.told("m99 0;m99 0;m99 0;m0 99;m0 99;m0 99;p99;");
        haulIs(x, 99, 8);
        makeAll(x, 0, 1, 2);
        haulIs(x, 297, 56);
        makeAll(x, 3, 4, 5);
        haulIs(x, 0, 0);
    }

    private static void haulLeast() {
        DUE.sentence("how much; which (bits; of several the least)");
        haulIs(Due.told("m0 5;m0 5;p5;"), 5, 1);
        haulIs(Due.told("m0 0;m0 5;p5;"), 5, 2);
        haulIs(Due.told("m0 6 7;m0 2;m0 3;m0 5;p5;"), 5, 6);
        haulIs(Due.told("m5 0;m0 5;m0 0;p0;"), 0, 0);
        haulIs(Due.told("m0 4;m0 1;m0 5;p5;"), 5, 3);
    }

    private static void togetherIs(String text, int many, int first) {
        PotLoans x = Due.told(text);
        is("together(0) of " + text, x.together(0), many);
        is("together(1) of " + text, x.together(1), first);
    }

    private static void together() {
        DUE.sentence("TOGETHER: the most BELIEFS that he could BELIEVE and not be CAUGHT, HELD alone (with all that follows): "
            + "how many; the first of several (bits, least); NONE (he must be CAUGHT whatever he HOLDS).");
        togetherIs("", 8, 255);
        togetherIs("x0 7;", 7, 127);
        togetherIs("x6 7;", 7, 127);
        togetherIs("x0 1;", 7, 253);
        togetherIs("x0 1;x2 3;x4 5;x6 7;", 4, 85);
        togetherIs("x0 1;c1 7;", 7, 254);
        togetherIs("x0 1;c0 7;c1 6;", 6, 126);
        togetherIs("c0;c1;x0 1;", NONE, NONE);
        togetherIs("c0;c1 0;c2 1;x0 2;", NONE, NONE);
        togetherIs("c0;x0 1;", 7, 253);
        togetherIs("x0 1;c0 1;c1 0;c0 2;c0 3;c0 4;c0 5;c0 6;c0 7;", 0, 0);
        togetherIs("x0 1;c1 0;c0 2;c0 3;c0 4;c0 5;c0 6;c0 7;", 1, 2);
        PotLoans x = Due.told("x0 1;h0 1;");
        is("what he holds does not count", x.together(0), 7);
        is("now(0)", x.now(0), 3);
    }

    private static void forbid() {
        DUE.sentence("the fewest CLAIMS not ACCEPTED (bits; of as few the least) without which HAUL is v at most");
        is("forbid(0), no claims", new PotLoans().forbid(0), 0);
        is("forbid(999), no claims", new PotLoans().forbid(999), 0);
        PotLoans x = Due.told("m0 10;m0 10;m0 10;m0 10;m0 10;m0 10;p60;");
        int[] due = {63, 31, 15, 7, 3, 1, 0};
        for (int many = 0; many <= 6; many++) {
            is("forbid(" + many * 10 + ")", x.forbid(many * 10), due[many]);
            is("forbid(" + (many * 10 + 9) + ")", x.forbid(many * 10 + 9), due[many]);
        }
        is("forbid(999)", x.forbid(999), 0);
        x.makes(0);
        x.makes(3);
        is("forbid(0), two are accepted", x.forbid(0), 54);
        is("forbid(39)", x.forbid(39), 2);
        is("forbid(40)", x.forbid(40), 0);
        PotLoans y = Due.told("m0 10 0;m0 10 0;m0 0 g0;p60;");
        is("forbid(0), one on which all rests", y.forbid(0), 4);
        is("forbid(10), the least of as few", y.forbid(10), 1);
        is("forbid(19)", y.forbid(19), 1);
        is("forbid(20)", y.forbid(20), 0);
        PotLoans z = Due.told("m0 5;m0 9;m0 9;p99;");
        is("forbid(9), the least two", z.forbid(9), 3);
        is("forbid(5), not the least two", z.forbid(5), 6);
        is("forbid(4)", z.forbid(4), 7);
        is("forbid(13), one is not enough", z.forbid(13), 3);
        is("forbid(14), not the least one", z.forbid(14), 2);
    }

    private static void told() {
        DUE.sentence("TOLD (6 at most)");
        PotLoans x = Due.told("m1 0;");
        is("forget(), none", x.forget(), 0);
        for (int i = 1; i <= 6; i++) {
            is("tells(0, 1)", x.tells(0, 1), i);
            is("count(3)", x.count(3), i);
        }
        is("tells(0, 1), the seventh", x.tells(0, 1), PotLoans.FULL);
        is("tells(0, 0), not heard", x.tells(0, 0), PotLoans.FULL);
        is("believed(0)", x.believed(0), 256);
        DUE.sentence("Nothing was TOLD: how much there was.");
        is("forget(), full", x.forget(), 6);
        is("count(3)", x.count(3), 0);
        is("forget(), none", x.forget(), 0);
        is("tells(0, 4), one again", x.tells(0, 4), 1);
        is("believed(0), by that one alone", x.believed(0), 0);
        is("forget(), one", x.forget(), 1);
        is("believed(0)", x.believed(0), 256);
    }

    private static void toldFirstOfAll() {
        DUE.sentence("of a CLAIM, MADE to a lender with THE LENDER's PURSE as told, HOW (0 .. 4) he took it, first of all");
        PotLoans x = Due.told("m0 10;m0 10 0;m5 0 0 g1;m0 11;x0 1;p10;");
        makeAll(x, 0);
        for (int how = 0; how <= 4; how++) {
            x.tells(0, how);
            is("believed(0), claim 0, " + how, x.believed(0), how == 1 ? 192 : 0);
            x.forget();
            x.tells(3, how);
            is("believed(0), claim 3, " + how, x.believed(0), how == 3 ? 192 : 0);
            x.forget();
        }
        int[] resting = {0, 64, 0, 0, 128};
        int[] granting = {128, 0, 64, 0, 0};
        for (int how = 0; how <= 4; how++) {
            x.tells(1, how);
            is("believed(0), claim 1, " + how, x.believed(0), resting[how]);
            x.forget();
            x.tells(2, how);
            is("believed(0), claim 2, " + how, x.believed(0), granting[how]);
            x.forget();
        }
    }

    private static void believedIs(PotLoans x, int many, int least, int inAll) {
        is("believed(0)", x.believed(0), many);
        is("believed(1)", x.believed(1), least);
        is("believed(2)", x.believed(2), inAll);
    }

    private static void believed() {
        DUE.sentence("BELIEVED: sets (0 .. 255) that he can have HELD at first, not CAUGHT, by which all that was TOLD is so: "
            + "how many; the least; those in all of them (bits); NONE.");
        believedIs(new PotLoans(), 256, 0, 0);
        believedIs(Due.told("x0 1;"), 192, 0, 0);
        believedIs(Due.told("c0;c1;x0 1;"), 0, NONE, NONE);
        PotLoans all = Due.told("m0 1 0 1 2 3 4 5 6 7;");
        all.tells(0, 1);
        believedIs(all, 1, 255, 255);
        all.tells(0, 4);
        believedIs(all, 0, NONE, NONE);
        PotLoans either = Due.told("c1 0;m0 1 1;");
        either.tells(0, 1);
        believedIs(either, 192, 1, 0);
        PotLoans none = Due.told("x0 1;c0 2;c0 3;c0 4;c0 5;c0 6;c0 7;m0 1 g0;");
        none.tells(0, 1);
        believedIs(none, 128, 0, 0);
        PotLoans alone = Due.told("x0 1;c0 2;c0 3;c0 4;c0 5;c0 6;c0 7;m0 1 g1;");
        alone.tells(0, 1);
        believedIs(alone, 2, 0, 0);
        PotLoans dear = Due.told("m0 50;m0 51;");
        dear.makes(0);
        dear.tells(0, 1);
        dear.tells(1, 3);
        believedIs(dear, 256, 0, 0);
        dear.tells(0, 3);
        believedIs(dear, 0, NONE, NONE);
        PotLoans each = Due.told("m9 0 7 g0;m0 1 0;");
        each.tells(0, 0);
        each.tells(1, 4);
        believedIs(each, 64, 0, 0);
        each.tells(1, 1);
        believedIs(each, 0, NONE, NONE);
        PotLoans last = Due.told("m0 0 7;m0 0 6;m0 0 5;");
        for (int i = 0; i < 5; i++) {
            last.tells(0, 1);
        }
        last.tells(1, 1);
        believedIs(last, 64, 192, 192);
        last.tells(2, 1);
        believedIs(last, 64, 192, 192);
    }

    private static void oddsAre(PotLoans x, int c, int in, int upper, int lower) {
        is("odds(" + c + ", " + in + ", 0)", x.odds(c, in, 0), upper);
        is("odds(" + c + ", " + in + ", 1)", x.odds(c, in, 1), lower);
    }

    private static void odds() {
        DUE.sentence("ODDS of a CLAIM by x (0 .. 10): all CLAIMS that were not ACCEPTED come by numbers, each is MADE by x in 10, "
            + "for itself: that it is ACCEPTED: a fraction (1 by 1, if it is).");
        PotLoans one = Due.told("m0 1;");
        int[][] due = {{0, 1}, {1, 10}, {1, 5}, {3, 10}, {2, 5}, {1, 2}, {3, 5}, {7, 10}, {4, 5}, {9, 10}, {1, 1}};
        for (int in = 0; in <= 10; in++) {
            oddsAre(one, 0, in, due[in][0], due[in][1]);
        }
        one.makes(0);
        for (int in = 0; in <= 10; in++) {
            oddsAre(one, 0, in, 1, 1);
        }
        PotLoans never = Due.told("m0 1 7;");
        for (int in = 0; in <= 10; in++) {
            oddsAre(never, 0, in, 0, 1);
        }
        PotLoans late = Due.told("m0 1 0;m0 1 g0;");
        oddsAre(late, 0, 10, 0, 1);
        late.makes(1);
        oddsAre(late, 0, 10, 1, 1);
        oddsAre(late, 0, 3, 3, 10);
        PotLoans six = Due.told("m0 0 g0;m0 0 0 g1;m0 0 1 g2;m0 0 2 g3;m0 0 3 g4;m0 0 4;");
        oddsAre(six, 5, 1, 1, 1000000);
        oddsAre(six, 5, 9, 531441, 1000000);
        oddsAre(six, 5, 10, 1, 1);
        oddsAre(six, 5, 0, 0, 1);
        six.makes(0);
        oddsAre(six, 5, 1, 1, 100000);
        PotLoans last = Due.told("m0 1;m0 1;m0 1;m0 1;m0 1;m0 1;p1;");
        oddsAre(last, 5, 9, 9, 1000000);
        oddsAre(last, 5, 10, 0, 1);
        oddsAre(last, 0, 10, 1, 1);
    }

    // ---- 4

    private static void marksAre(PotLoans x, int c, int... due) {
        for (int kind = 0; kind < due.length; kind++) {
            is("mark(" + kind + ", " + c + ")", x.mark(kind, c), due[kind]);
        }
    }

    private static void marks() {
        DUE.sentence("MARK of a CLAIM as if of a KIND");
        PotLoans x = Due.told("m0 0;m99 99 0 1 2 3 4 5 6 7 g0 1 2 3 4 5 6 7;m99 0;m0 99 0 0 0 g5 5;p99;");
        marksAre(x, 0, 0, 0, 0, 0, 0, 0);
        marksAre(x, 1, 99, 107, 0, 214, 8, 99);
        marksAre(x, 2, 99, 99, 99, 198, 99, 99);
        marksAre(x, 3, 0, 1, -99, 2, -98, 0);
        x.makes(3);
        x.makes(3);
        marksAre(x, 2, 99, 99, 99, 198, 99, 101);
        x.makes(0);
        marksAre(x, 0, 0, 0, 0, 0, 0, 2);
    }

    private static void noBelowZero() {
        DUE.sentence("What none is, where a number may be below 0.");
        for (int n : new int[] {PotLoans.BAD, PotLoans.STATE, PotLoans.FULL, PotLoans.NONE}) {
            PotLoans x = Due.told("m0 " + -n + ";");
            is("mark(2, 0)", x.mark(2, 0), n);
            is("mark(2, 1)", x.mark(2, 1), PotLoans.NO);
        }
        is("NO", PotLoans.NO, -1000000);
    }

    private static void traces() {
        DUE.sentence("numbers in brackets come to THE TRACE as often as mark() asks that body");
        int[] due = {1, 11, 101, 1011, 10101, 100001};
        for (int kind = 0; kind < 6; kind++) {
            PotLoans x = Due.told("m1 2;");
            is("trace(), nothing asked", x.trace(), 0);
            for (int times = 1; times <= 3; times++) {
                x.mark(kind, 0);
                is("trace(), mark(" + kind + ", 0)", x.trace(), (long) due[kind] * times);
            }
            x.mark(kind, 1);
            x.mark(-1, 0);
            x.mark(6, 0);
            is("trace(), NO asks no body", x.trace(), due[kind] * 3L);
            x.makes(0);
            x.undo();
            x.keep(0);
            x.back(0);
            x.village();
            is("trace(), all else leaves it", x.trace(), due[kind] * 3L);
        }
    }

    private static void images() {
        DUE.sentence("IMAGES 0, 1 keep NOW (what is HELD, ACCEPTED, PURSE, REFUSALS, what may be UNDONE); nothing else.");
        PotLoans x = Due.told("h0;m5 1 g1;m0 60;p20;");
        is("keep(0)", x.keep(0), 20);
        makeAll(x, 0, 1);
        is("keep(1)", x.keep(1), 24);
        x.recants(0);
        x.tells(0, 2);
        x.type('h');
        x.mark(0, 0);
        is("back(0)", x.back(0), 20);
        int[] first = {1, 1, 20, 0, 0, 0, 1};
        for (int what = 0; what < first.length; what++) {
            is("now(" + what + "), as image 0", x.now(what), first[what]);
        }
        is("count(4), nothing to be undone", x.count(4), 0);
        is("undo()", x.undo(), PotLoans.STATE);
        is("back(1)", x.back(1), 24);
        int[] second = {3, 3, 24, 1, 1, 0, 0};
        for (int what = 0; what < second.length; what++) {
            is("now(" + what + "), as image 1", x.now(what), second[what]);
        }
        is("count(4)", x.count(4), 2);
        is("count(3), what was told is in none", x.count(3), 1);
        is("count(5), the text is in none", x.count(5), 1);
        is("trace(), the trace is in none", x.trace(), 1);
        is("keep(0), kept anew", x.keep(0), 24);
        x.undo();
        x.undo();
        is("back(0), the later one", x.back(0), 24);
    }

    private static void imagesAndUndo() {
        DUE.sentence("keep NOW (what is HELD, ACCEPTED, PURSE, REFUSALS, what may be UNDONE)");
        PotLoans x = Due.told("");
        for (int b = 0; b < 8; b++) {
            x.holds(b);
        }
        for (int b = 0; b < 3; b++) {
            x.recants(b);
        }
        x.keep(0);
        for (int b = 3; b < 8; b++) {
            x.recants(b);
            x.holds(b);
        }
        x.back(0);
        is("count(4), full", x.count(4), 10);
        int[] held = {252, 254, 255, 127, 63, 31, 15, 7, 3, 1};
        for (int i = 0; i < 10; i++) {
            is("undo()", x.undo(), 9 - i);
            is("now(0)", x.now(0), held[i]);
        }
        is("undo()", x.undo(), PotLoans.STATE);
        is("back(0), it is kept still", x.back(0), 50);
        is("count(4)", x.count(4), 10);
        is("undo()", x.undo(), 9);
        is("now(0)", x.now(0), 252);
    }
}
