import java.util.ArrayList;
import java.util.List;
import java.util.function.Supplier;

/** "Refused, and nothing changes, the first of these: BAD .., STATE .., FULL.": each refusal of each call. */
public final class RefusalsTest {
    private static final Due DUE = new Due("RefusalsTest");
    private static final int BAD = PotLoans.BAD, STATE = PotLoans.STATE, FULL = PotLoans.FULL, NO = PotLoans.NO;
    private static final int[] WILD = {-1, -2, -1000000, Integer.MIN_VALUE, 1000000, Integer.MAX_VALUE};

    private interface Call {
        long of(PotLoans x);
    }

    public static void main(String[] args) {
        type();
        village();
        claimAndClause();
        now();
        makes();
        refusals999();
        recants();
        holds();
        undo();
        whatFollows();
        rowsOfClaims();
        tells();
        believed();
        mark();
        images();
        counts();
        changeOnlyWhatTheyTell();
        DUE.end();
    }

    // ---- two objects of the same past, one of which is asked once more

    /** Something of all: accepted, refused, held, recanted, told, two images, a trace, the beginning of a text. */
    private static PotLoans busy() {
        PotLoans x = Due.told("h2 3;c1 0;x5 6;m5 1 4 g0;m0 20 1 g5;m0 99;p60;");
        x.makes(2);
        x.keep(0);
        x.makes(0);
        x.holds(7);
        x.keep(1);
        x.recants(3);
        x.tells(0, 0);
        x.tells(1, 4);
        x.mark(3, 1);
        Due.type(x, "h4;c2 1;p9;");
        return x;
    }

    /** All that an object answers, now and behind what may be undone, in its images and by its text. */
    private static List<Long> everything(PotLoans x) {
        List<Long> all = new ArrayList<>();
        addTold(x, all);
        addWhatFollows(x, all);
        addRows(x, all);
        addNowAndUndo(x, all);
        for (int image = 0; image <= 1; image++) {
            all.add((long) x.back(image));
            addNowAndUndo(x, all);
        }
        all.add((long) x.village());
        addTold(x, all);
        all.add((long) x.clear());
        return all;
    }

    private static void addTold(PotLoans x, List<Long> all) {
        for (int what = 0; what <= 5; what++) {
            all.add((long) x.count(what));
            for (int c = 0; c < 3; c++) {
                all.add((long) x.claim(c, what));
            }
        }
        for (int what = 0; what <= 2; what++) {
            all.add((long) x.clause(0, what));
            all.add((long) x.believed(what));
        }
        all.add(x.trace());
    }

    private static void addWhatFollows(PotLoans x, List<Long> all) {
        for (int b = 0; b < 8; b++) {
            all.add((long) x.steps(b));
            all.add((long) x.would(1 << b));
        }
        all.add((long) x.together(0));
        all.add((long) x.together(1));
    }

    private static void addRows(PotLoans x, List<Long> all) {
        for (int c = 0; c < 3; c++) {
            all.add((long) x.row(c, -1));
            all.add((long) x.row(c, 0));
            all.add((long) x.odds(c, 3, 0));
        }
        all.add((long) x.haul(0));
        all.add((long) x.haul(1));
        all.add((long) x.forbid(0));
    }

    private static void addNowAndUndo(PotLoans x, List<Long> all) {
        int left = 1;
        for (int times = 0; times < 12 && left >= 0; times++) {
            for (int what = 0; what <= 4; what++) {
                all.add((long) x.now(what));
            }
            left = x.undo();
            all.add((long) left);
        }
    }

    /** The call answers what is due, and nothing changes by it. */
    private static void still(String name, Supplier<PotLoans> past, Call call, long due) {
        PotLoans asked = past.get();
        DUE.is(name, call.of(asked), due);
        DUE.holds(name + " changes nothing", everything(asked).equals(everything(past.get())));
    }

    private static void still(String name, Call call, long due) {
        still(name, RefusalsTest::busy, call, due);
    }

    /** The call answers what it answered on an object of the same past, and nothing changes by it. */
    private static void asks(String name, Call call) {
        still(name, call, call.of(busy()));
    }

    // ---- the village

    private static PotLoans fullText() {
        PotLoans x = Due.told("m1 0;");
        x.makes(0);
        Due.type(x, " ".repeat(217) + "p8;");
        return x;
    }

    private static void type() {
        DUE.sentence("A byte (0 .. 255) comes to THE TEXT: how many it has. BAD; FULL.");
        still("type(-1)", x -> x.type(-1), BAD);
        still("type(256)", x -> x.type(256), BAD);
        for (int n : WILD) {
            still("type(" + n + ")", x -> x.type(n), BAD);
        }
        for (int b : new int[] {0, 32, 59, 255}) {
            still("type(" + b + "), full", RefusalsTest::fullText, x -> x.type(b), FULL);
        }
        still("type(-1), full and bad", RefusalsTest::fullText, x -> x.type(-1), BAD);
        still("type(256), full and bad", RefusalsTest::fullText, x -> x.type(256), BAD);
    }

    private static PotLoans withText(String text) {
        PotLoans x = busy();
        x.clear();
        Due.type(x, text);
        return x;
    }

    private static void village() {
        DUE.sentence("-10 less FAULT: nothing changes.");
        still("village(), at once", () -> withText("q"), x -> x.village(), -10);
        still("village(), too early", () -> withText("h"), x -> x.village(), -11);
        still("village(), behind all kinds", () -> withText("h1;c4 5;x1 7;m8 9 1 g2;p3;p4;"), x -> x.village(), -36);
        still("village(), a ninth belief", () -> withText("p1;h 1 1 1 1 1 1 1 1 1;"), x -> x.village(), -31);
        still("village(), a like belief", () -> withText("c7 0;c6 0;x3 3;"), x -> x.village(), -23);
        still("village(), a seventh claim", () -> withText("m1 1;".repeat(6) + "m"), x -> x.village(), -40);
        still("village(), at the end of a full text", () -> full("q"), x -> x.village(), -229);
        still("village(), full and too early", () -> full("h"), x -> x.village(), -230);
    }

    private static PotLoans full(String end) {
        PotLoans x = Due.told("m1 0;");
        x.makes(0);
        Due.type(x, " ".repeat(220 - end.length()) + end);
        return x;
    }

    private static void claimAndClause() {
        DUE.sentence("BAD (a number is not as told, or there is no such thing)");
        for (int what = 0; what <= 5; what++) {
            int of = what;
            asks("claim(0, " + what + ")", x -> x.claim(0, of));
            asks("claim(1, " + what + ")", x -> x.claim(1, of));
        }
        for (int what = 0; what <= 2; what++) {
            int of = what;
            asks("clause(0, " + what + ")", x -> x.clause(0, of));
        }
        still("claim(3, 0)", x -> x.claim(3, 0), BAD);
        still("claim(-1, 0)", x -> x.claim(-1, 0), BAD);
        still("claim(0, 6)", x -> x.claim(0, 6), BAD);
        still("claim(0, -1)", x -> x.claim(0, -1), BAD);
        still("clause(1, 0)", x -> x.clause(1, 0), BAD);
        still("clause(-1, 0)", x -> x.clause(-1, 0), BAD);
        still("clause(0, 3)", x -> x.clause(0, 3), BAD);
        still("clause(0, -1)", x -> x.clause(0, -1), BAD);
        for (int n : WILD) {
            still("claim(" + n + ", " + n + ")", x -> x.claim(n, n), BAD);
            still("clause(" + n + ", " + n + ")", x -> x.clause(n, n), BAD);
        }
    }

    private static void now() {
        DUE.sentence("6 CLAIMS he would accept (bits). BAD.");
        for (int what = 0; what <= 6; what++) {
            int of = what;
            asks("now(" + what + ")", x -> x.now(of));
        }
        still("now(7)", x -> x.now(7), BAD);
        for (int n : WILD) {
            still("now(" + n + ")", x -> x.now(n), BAD);
        }
    }

    // ---- what is done

    private static void makes() {
        DUE.sentence("BAD; STATE: it was ACCEPTED");
        still("makes(0), accepted", x -> x.makes(0), STATE);
        still("makes(3), no such claim", x -> x.makes(3), BAD);
        for (int n : WILD) {
            still("makes(" + n + ")", x -> x.makes(n), BAD);
        }
        still("makes(0), no claims", PotLoans::new, x -> x.makes(0), BAD);
    }

    /** 999 can't be reached by 512 calls; what the document leaves free behind them is held to it here all the same. */
    private static PotLoans with999() {
        PotLoans x = Due.told("m0 9 5;m1 0;m0 0;p8;");
        x.makes(2);
        for (int i = 1; i <= 998; i++) {
            x.makes(0);
        }
        DUE.is("now(4)", x.now(4), 998);
        DUE.is("makes(0), the 999th", x.makes(0), 3);
        return x;
    }

    private static void refusals999() {
        DUE.sentence("there are 999 REFUSALS (whatever it is)");
        PotLoans x = with999();
        DUE.is("now(4)", x.now(4), 999);
        still("makes(0), refused", RefusalsTest::with999, y -> y.makes(0), STATE);
        still("makes(1), it would be accepted", RefusalsTest::with999, y -> y.makes(1), STATE);
        still("makes(2), accepted", RefusalsTest::with999, y -> y.makes(2), STATE);
        still("makes(3), bad ahead of that", RefusalsTest::with999, y -> y.makes(3), BAD);
        still("makes(-1), bad ahead of that", RefusalsTest::with999, y -> y.makes(-1), BAD);
        DUE.is("mark(5, 0)", x.mark(5, 0), 999);
        DUE.is("holds(1), that may be", x.holds(1), 2);
        DUE.is("undo()", x.undo(), 9);
        DUE.is("undo()", x.undo(), 8);
        DUE.is("now(4)", x.now(4), 998);
        DUE.is("makes(1)", x.makes(1), 1);
        DUE.is("makes(0)", x.makes(0), 4);
        DUE.is("makes(0)", x.makes(0), STATE);
    }

    private static void recants() {
        DUE.sentence("BAD; STATE: he does not HOLD it.");
        for (int b : new int[] {1, 3, 4, 5, 6}) {
            still("recants(" + b + ")", x -> x.recants(b), STATE);
        }
        still("recants(8)", x -> x.recants(8), BAD);
        for (int n : WILD) {
            still("recants(" + n + ")", x -> x.recants(n), BAD);
        }
        still("recants(0), none held", PotLoans::new, x -> x.recants(0), STATE);
        still("recants(8), bad ahead of that", PotLoans::new, x -> x.recants(8), BAD);
        still("recants(-1), bad ahead of that", PotLoans::new, x -> x.recants(-1), BAD);
    }

    private static PotLoans allHeld() {
        return Due.told("h0 1 2 3 4 5 6 7;");
    }

    private static void holds() {
        DUE.sentence("BAD; STATE: he HOLDS it.");
        for (int b : new int[] {0, 2, 7}) {
            still("holds(" + b + ")", x -> x.holds(b), STATE);
        }
        still("holds(8)", x -> x.holds(8), BAD);
        for (int n : WILD) {
            still("holds(" + n + ")", x -> x.holds(n), BAD);
        }
        still("holds(7), all held", RefusalsTest::allHeld, x -> x.holds(7), STATE);
        still("holds(8), bad ahead of that", RefusalsTest::allHeld, x -> x.holds(8), BAD);
        still("holds(-1), bad ahead of that", RefusalsTest::allHeld, x -> x.holds(-1), BAD);
    }

    private static PotLoans nothingToUndo() {
        PotLoans x = busy();
        for (int i = 0; i < 4; i++) {
            x.undo();
        }
        return x;
    }

    private static void undo() {
        DUE.sentence("UNDONE: how many more may be. STATE: none.");
        still("undo(), a new object", PotLoans::new, x -> x.undo(), STATE);
        still("undo(), all is undone", RefusalsTest::nothingToUndo, x -> x.undo(), STATE);
    }

    // ---- what follows, rows of claims

    private static void whatFollows() {
        DUE.sentence("(Nothing is changed; CLAIMS that were ACCEPTED can't be MADE again.)");
        for (int n = 0; n < 8; n++) {
            int b = n;
            asks("steps(" + b + ")", x -> x.steps(b));
            asks("would(" + (255 - b) + ")", x -> x.would(255 - b));
        }
        still("steps(8)", x -> x.steps(8), BAD);
        still("would(256)", x -> x.would(256), BAD);
        still("together(2)", x -> x.together(2), BAD);
        asks("together(0)", x -> x.together(0));
        asks("together(1)", x -> x.together(1));
        for (int n : WILD) {
            still("steps(" + n + ")", x -> x.steps(n), BAD);
            still("would(" + n + ")", x -> x.would(n), BAD);
            still("together(" + n + ")", x -> x.together(n), BAD);
        }
    }

    private static void rowsOfClaims() {
        DUE.sentence("(Nothing is changed; CLAIMS that were ACCEPTED can't be MADE again.)");
        for (int n = 0; n < 3; n++) {
            int c = n;
            asks("row(" + c + ", -1)", x -> x.row(c, -1));
            asks("row(" + c + ", 1)", x -> x.row(c, 1));
            asks("odds(" + c + ", 5, 0)", x -> x.odds(c, 5, 0));
            asks("odds(" + c + ", 5, 1)", x -> x.odds(c, 5, 1));
        }
        asks("haul(0)", x -> x.haul(0));
        asks("haul(1)", x -> x.haul(1));
        asks("forbid(0)", x -> x.forbid(0));
        asks("forbid(999)", x -> x.forbid(999));
        still("row(0, -1), accepted", x -> x.row(0, -1), BAD);
        still("row(0, 0), accepted", x -> x.row(0, 0), BAD);
        still("row(0, -2), accepted", x -> x.row(0, -2), BAD);
        still("row(1, -2)", x -> x.row(1, -2), BAD);
        still("row(3, -1)", x -> x.row(3, -1), BAD);
        still("haul(2)", x -> x.haul(2), BAD);
        still("forbid(1000)", x -> x.forbid(1000), BAD);
        still("odds(3, 5, 0)", x -> x.odds(3, 5, 0), BAD);
        still("odds(1, 11, 0)", x -> x.odds(1, 11, 0), BAD);
        still("odds(1, 5, 2)", x -> x.odds(1, 5, 2), BAD);
        still("odds(0, 11, 0), accepted", x -> x.odds(0, 11, 0), BAD);
        still("odds(0, -1, 1), accepted", x -> x.odds(0, -1, 1), BAD);
        still("odds(0, 5, 2), accepted", x -> x.odds(0, 5, 2), BAD);
        for (int n : WILD) {
            still("row(" + n + ", -1)", x -> x.row(n, -1), BAD);
            still("haul(" + n + ")", x -> x.haul(n), BAD);
            still("forbid(" + n + ")", x -> x.forbid(n), BAD);
            still("odds(" + n + ", 5, 0)", x -> x.odds(n, 5, 0), BAD);
            still("odds(1, " + n + ", 0)", x -> x.odds(1, n, 0), BAD);
            still("odds(1, 5, " + n + ")", x -> x.odds(1, 5, n), BAD);
        }
    }

    // ---- what he believed

    private static PotLoans sixTold() {
        PotLoans x = busy();
        for (int i = 0; i < 4; i++) {
            x.tells(i % 3, i % 2);
        }
        return x;
    }

    private static void tells() {
        DUE.sentence("TOLD: how much there is. BAD; FULL.");
        still("tells(3, 0)", x -> x.tells(3, 0), BAD);
        still("tells(0, 5)", x -> x.tells(0, 5), BAD);
        for (int n : WILD) {
            still("tells(" + n + ", 0)", x -> x.tells(n, 0), BAD);
            still("tells(0, " + n + ")", x -> x.tells(0, n), BAD);
        }
        still("tells(0, 0), full", RefusalsTest::sixTold, x -> x.tells(0, 0), FULL);
        still("tells(2, 4), full", RefusalsTest::sixTold, x -> x.tells(2, 4), FULL);
        still("tells(3, 0), full and bad", RefusalsTest::sixTold, x -> x.tells(3, 0), BAD);
        still("tells(-1, 0), full and bad", RefusalsTest::sixTold, x -> x.tells(-1, 0), BAD);
        still("tells(0, 5), full and bad", RefusalsTest::sixTold, x -> x.tells(0, 5), BAD);
        still("tells(0, -1), full and bad", RefusalsTest::sixTold, x -> x.tells(0, -1), BAD);
    }

    private static void believed() {
        DUE.sentence("those in all (2; NONE). BAD.");
        for (int what = 0; what <= 2; what++) {
            int of = what;
            asks("believed(" + what + ")", x -> x.believed(of));
        }
        still("believed(3)", x -> x.believed(3), BAD);
        for (int n : WILD) {
            still("believed(" + n + ")", x -> x.believed(n), BAD);
        }
    }

    // ---- kinds, images

    private static void mark() {
        DUE.sentence("MARK. NO: BAD.");
        still("mark(6, 0)", x -> x.mark(6, 0), NO);
        still("mark(0, 3)", x -> x.mark(0, 3), NO);
        still("mark(6, 3)", x -> x.mark(6, 3), NO);
        for (int n : WILD) {
            still("mark(" + n + ", 0)", x -> x.mark(n, 0), NO);
            still("mark(0, " + n + ")", x -> x.mark(0, n), NO);
        }
        still("mark(0, 0), no claims", PotLoans::new, x -> x.mark(0, 0), NO);
    }

    private static PotLoans oneKept() {
        PotLoans x = Due.told("h1;");
        x.holds(2);
        x.keep(1);
        x.recants(1);
        return x;
    }

    private static void images() {
        DUE.sentence("BAD; STATE: none was kept.");
        still("keep(2)", x -> x.keep(2), BAD);
        still("back(2)", x -> x.back(2), BAD);
        for (int n : WILD) {
            still("keep(" + n + ")", x -> x.keep(n), BAD);
            still("back(" + n + ")", x -> x.back(n), BAD);
        }
        still("back(0), the other is kept", RefusalsTest::oneKept, x -> x.back(0), STATE);
        still("back(2), bad ahead of that", RefusalsTest::oneKept, x -> x.back(2), BAD);
        still("back(0), none kept", PotLoans::new, x -> x.back(0), STATE);
        still("back(1), none kept", PotLoans::new, x -> x.back(1), STATE);
        still("back(-1), bad ahead of that", PotLoans::new, x -> x.back(-1), BAD);
    }

    private static void counts() {
        DUE.sentence("5 bytes of THE TEXT. BAD.");
        for (int what = 0; what <= 5; what++) {
            int of = what;
            asks("count(" + what + ")", x -> x.count(of));
        }
        still("count(6)", x -> x.count(6), BAD);
        for (int n : WILD) {
            still("count(" + n + ")", x -> x.count(n), BAD);
        }
        asks("trace()", x -> x.trace());
    }

    /** What such a call changes is taken back by hand; then all is as on an object that was not asked. */
    private static void changeOnlyWhatTheyTell() {
        DUE.sentence("Nothing is promised beyond the answers and state changes described above");
        still("type(), then clear() and all again", x -> {
            x.type('q');
            x.clear();
            Due.type(x, "h4;c2 1;p9;");
            return 0;
        }, 0);
        still("makes(), then undo()", x -> {
            x.makes(1);
            x.makes(2);
            x.undo();
            return x.undo();
        }, 4);
        still("recants(), holds(), then undo()", x -> {
            x.recants(7);
            x.holds(3);
            x.undo();
            return x.undo();
        }, 4);
        still("tells(), then forget() and all again", x -> {
            x.tells(2, 3);
            x.forget();
            x.tells(0, 0);
            return x.tells(1, 4);
        }, 2);
        still("back() to what was kept now", () -> {
            PotLoans y = busy();
            y.keep(0);
            return y;
        }, x -> {
            x.makes(2);
            x.undo();
            x.undo();
            x.holds(6);
            return x.back(0);
        }, 64);
    }
}
