import java.util.TreeSet;
import java.util.function.Supplier;

/** The numbers that each call takes: the last that is allowed and the first that is not, on either side. */
public final class CallBoundsTest {
    private static final Due DUE = new Due("CallBoundsTest");
    private static final String FULL_VILLAGE = "h2;c1 0;c3 2;x3 4;x5 6;m5 1 4 g0;m0 20 1 g5;m9 0 g4;m1 99;p60;";

    private interface Call {
        long with(PotLoans x, int n);
    }

    public static void main(String[] args) {
        claim();
        clause();
        now();
        makes();
        recants();
        holds();
        steps();
        would();
        together();
        row();
        haul();
        forbid();
        odds();
        tells();
        believed();
        mark();
        images();
        counts();
        noArguments();
        calls512();
        DUE.end();
    }

    private static void is(String call, long got, long want) {
        DUE.is(call, got, want);
    }

    /** All numbers near a bound of any call, and the ends of what an int can be. */
    private static TreeSet<Integer> numbers() {
        TreeSet<Integer> all = new TreeSet<>();
        for (int n = -40; n <= 300; n++) {
            all.add(n);
        }
        for (int middle : new int[] {0, 512, 999, -1000, -1000000, 1 << 16, 1 << 24, Integer.MIN_VALUE, Integer.MAX_VALUE}) {
            for (int n = -3; n <= 3; n++) {
                all.add(middle + n);
            }
        }
        for (int bit = 0; bit < 32; bit++) {
            all.add(1 << bit);
            all.add(-(1 << bit));
        }
        return all;
    }

    /** On a new object each: bad is answered for the numbers outside first .. last, and for no other. */
    private static void range(String name, Supplier<PotLoans> made, Call call, long bad, int first, int last) {
        for (int n : numbers()) {
            boolean allowed = n >= first && n <= last;
            long got = call.with(made.get(), n);
            DUE.holds(name + " with " + n + " answered " + got, got == bad != allowed);
        }
    }

    private static void range(String name, Call call, int first, int last) {
        range(name, () -> Due.told(FULL_VILLAGE), call, PotLoans.BAD, first, last);
    }

    /** By how many claims there are, from none to six. */
    private static void claimRange(String name, Call call, long bad) {
        for (int many = 0; many <= 6; many++) {
            String text = "m5 3;".repeat(many);
            range(name + ", " + many + " claims", () -> Due.told(text), call, bad, 0, many - 1);
        }
    }

    private static void claim() {
        DUE.sentence("Of a CLAIM: 0 GIVES, 1 TAKES, 2 on what it RESTS (bits), 3 what it GRANTS (bits), 4 whether ACCEPTED, "
            + "5 HOW he would take it (5: it was ACCEPTED). BAD.");
        for (int what = 0; what <= 5; what++) {
            int of = what;
            claimRange("claim(n, " + what + ")", (x, n) -> x.claim(n, of), PotLoans.BAD);
        }
        for (int c = 0; c < 4; c++) {
            int of = c;
            range("claim(" + c + ", n)", (x, n) -> x.claim(of, n), 0, 5);
        }
        range("claim(4, n), none", (x, n) -> x.claim(4, n), 1, 0);
        range("claim(-1, n), none", (x, n) -> x.claim(-1, n), 1, 0);
        PotLoans x = Due.told("m1 0;");
        is("claim(0, 4), not yet", x.claim(0, 4), 0);
        is("claim(0, 5), not yet", x.claim(0, 5), 1);
        x.makes(0);
        is("claim(0, 4), accepted", x.claim(0, 4), 1);
        is("claim(0, 5), accepted", x.claim(0, 5), 5);
        x.undo();
        is("claim(0, 4), undone", x.claim(0, 4), 0);
        is("claim(0, 5), undone", x.claim(0, 5), 1);
    }

    private static void clause() {
        DUE.sentence("Of a CLAUSE: 0 what must be believed, 1 by those who BELIEVE all of these (bits), "
            + "2 whether it binds him (he BELIEVES these). BAD.");
        for (int many = 0; many <= 8; many++) {
            String text = "c7 6;".repeat(many);
            for (int what = 0; what <= 2; what++) {
                int of = what;
                range("clause(n, " + what + "), " + many + " clauses", () -> Due.told(text),
                    (x, n) -> x.clause(n, of), PotLoans.BAD, 0, many - 1);
            }
        }
        range("clause(1, n)", (x, n) -> x.clause(1, n), 0, 2);
        range("clause(2, n), none", (x, n) -> x.clause(2, n), 1, 0);
        PotLoans x = Due.told("c7;c6 0 1;c5 7;c4 4;h0;");
        is("clause(0, 2), by none", x.clause(0, 2), 1);
        is("clause(1, 2), by one of two", x.clause(1, 2), 0);
        is("clause(2, 2), by what must be believed", x.clause(2, 2), 1);
        is("clause(3, 2), by itself", x.clause(3, 2), 0);
        x.holds(1);
        is("clause(1, 2), by both", x.clause(1, 2), 1);
    }

    private static void now() {
        DUE.sentence("0 what he HOLDS (bits), 1 what he BELIEVES (bits), 2 PURSE, 3 ACCEPTED (bits), 4 REFUSALS, "
            + "5 whether he is CAUGHT, 6 CLAIMS he would accept (bits). BAD.");
        range("now(n)", (x, n) -> x.now(n), 0, 6);
        range("now(n), a new object", PotLoans::new, (x, n) -> x.now(n), PotLoans.BAD, 0, 6);
        PotLoans x = Due.told("h0 1 2 3 4 5 6 7;m0 1;m0 1;m0 1;m0 1;m0 1;m0 1;p6;");
        is("now(0), all", x.now(0), 255);
        is("now(1), all", x.now(1), 255);
        is("now(6), all", x.now(6), 63);
        for (int c = 0; c < 6; c++) {
            is("makes(" + c + ")", x.makes(c), 1);
        }
        is("now(2), none is left", x.now(2), 0);
        is("now(3), all", x.now(3), 63);
        is("now(6), those accepted are not in it", x.now(6), 0);
    }

    private static void makes() {
        DUE.sentence("MADE: HOW he takes it. BAD;");
        claimRange("makes(n)", (x, n) -> x.makes(n), PotLoans.BAD);
    }

    private static void recants() {
        DUE.sentence("RECANTED: what he HOLDS (bits). BAD; STATE: he does not HOLD it.");
        range("recants(n), all held", () -> Due.told("h0 1 2 3 4 5 6 7;"), (x, n) -> x.recants(n), PotLoans.BAD, 0, 7);
        for (int b = 0; b < 8; b++) {
            is("recants(" + b + "), held", Due.told("h0 1 2 3 4 5 6 7;").recants(b), 255 - (1 << b));
            is("recants(" + b + "), the last", Due.told("h" + b + ";").recants(b), 0);
            is("recants(" + b + "), none held", new PotLoans().recants(b), PotLoans.STATE);
            is("recants(" + b + "), believed alone", Due.told("c" + b + ";").recants(b), PotLoans.STATE);
        }
    }

    private static void holds() {
        DUE.sentence("HELD anew: what he BELIEVES (bits). BAD; STATE: he HOLDS it.");
        range("holds(n), none held", PotLoans::new, (x, n) -> x.holds(n), PotLoans.BAD, 0, 7);
        for (int b = 0; b < 8; b++) {
            is("holds(" + b + "), none held", new PotLoans().holds(b), 1 << b);
            is("holds(" + b + "), held", Due.told("h" + b + ";").holds(b), PotLoans.STATE);
            is("holds(" + b + "), all held", Due.told("h0 1 2 3 4 5 6 7;").holds(b), PotLoans.STATE);
            PotLoans x = Due.told("c" + b + ";");
            is("holds(" + b + "), believed alone", x.holds(b), 1 << b);
            is("now(0)", x.now(0), 1 << b);
        }
    }

    private static void steps() {
        DUE.sentence("STEPS; NONE. BAD.");
        range("steps(n)", (x, n) -> x.steps(n), 0, 7);
        range("steps(n), a new object", PotLoans::new, (x, n) -> x.steps(n), PotLoans.BAD, 0, 7);
    }

    private static void would() {
        DUE.sentence("WOULD, as bits. BAD (0 .. 255).");
        range("would(n)", (x, n) -> x.would(n), 0, 255);
        for (int set = 0; set < 256; set++) {
            is("would(" + set + "), no clauses", new PotLoans().would(set), set);
        }
    }

    private static void together() {
        DUE.sentence("TOGETHER: how many (what = 0), the first (1, bits); NONE. BAD.");
        range("together(n)", (x, n) -> x.together(n), 0, 1);
        range("together(n), none", () -> Due.told("c0;c1;x0 1;"), (x, n) -> x.together(n), PotLoans.BAD, 0, 1);
    }

    private static void row() {
        DUE.sentence("ROW: how many (i = -1), the i-th (NONE: not so many); NONE. BAD (i below -1; it was ACCEPTED).");
        for (int i = -1; i <= 6; i++) {
            int at = i;
            claimRange("row(n, " + i + ")", (x, n) -> x.row(n, at), PotLoans.BAD);
        }
        for (int c = 0; c < 4; c++) {
            int of = c;
            range("row(" + c + ", n)", (x, n) -> x.row(of, n), -1, Integer.MAX_VALUE);
        }
        for (int n : numbers()) {
            PotLoans x = Due.told("m5 1;m0 3;");
            x.makes(0);
            is("row(0, " + n + "), accepted", x.row(0, n), PotLoans.BAD);
            long due = n < -1 ? PotLoans.BAD : n == -1 ? 1 : n == 0 ? 1 : PotLoans.NONE;
            is("row(1, " + n + "), not accepted", x.row(1, n), due);
            x.undo();
            due = n < -1 ? PotLoans.BAD : n == -1 ? 1 : n == 0 ? 0 : PotLoans.NONE;
            is("row(0, " + n + "), undone", x.row(0, n), due);
        }
    }

    private static void haul() {
        DUE.sentence("HAUL: how much (what = 0), which (1, bits). BAD.");
        range("haul(n)", (x, n) -> x.haul(n), 0, 1);
        range("haul(n), a new object", PotLoans::new, (x, n) -> x.haul(n), PotLoans.BAD, 0, 1);
    }

    private static void forbid() {
        DUE.sentence("FORBID for v (0 .. 999)");
        range("forbid(n)", (x, n) -> x.forbid(n), 0, 999);
        range("forbid(n), a new object", PotLoans::new, (x, n) -> x.forbid(n), PotLoans.BAD, 0, 999);
    }

    private static void odds() {
        DUE.sentence("ODDS: upper (what = 0), lower number (1), in least terms. BAD.");
        for (int what = 0; what <= 1; what++) {
            int of = what;
            claimRange("odds(n, 5, " + what + ")", (x, n) -> x.odds(n, 5, of), PotLoans.BAD);
            range("odds(0, n, " + what + ")", (x, n) -> x.odds(0, n, of), 0, 10);
            range("odds(3, n, " + what + ")", (x, n) -> x.odds(3, n, of), 0, 10);
            range("odds(0, n, " + what + "), accepted", CallBoundsTest::accepted, (x, n) -> x.odds(0, n, of), PotLoans.BAD, 0, 10);
        }
        for (int in = 0; in <= 10; in += 5) {
            int by = in;
            range("odds(0, " + in + ", n)", (x, n) -> x.odds(0, by, n), 0, 1);
            range("odds(0, " + in + ", n), accepted", CallBoundsTest::accepted, (x, n) -> x.odds(0, by, n), PotLoans.BAD, 0, 1);
        }
    }

    private static PotLoans accepted() {
        PotLoans x = Due.told("m5 1;");
        x.makes(0);
        return x;
    }

    private static void tells() {
        DUE.sentence("HOW (0 .. 4) he took it, first of all");
        for (int how = 0; how <= 4; how++) {
            int so = how;
            claimRange("tells(n, " + how + ")", (x, n) -> x.tells(n, so), PotLoans.BAD);
        }
        for (int c = 0; c < 4; c++) {
            int of = c;
            range("tells(" + c + ", n)", (x, n) -> x.tells(of, n), 0, 4);
        }
        range("tells(0, n), accepted", CallBoundsTest::accepted, (x, n) -> x.tells(0, n), PotLoans.BAD, 0, 4);
    }

    private static void believed() {
        DUE.sentence("BELIEVED: how many (what = 0), the least (1; NONE), those in all (2; NONE). BAD.");
        range("believed(n)", (x, n) -> x.believed(n), 0, 2);
        range("believed(n), none can be", () -> Due.told("c0;c1;x0 1;"), (x, n) -> x.believed(n), PotLoans.BAD, 0, 2);
    }

    private static void mark() {
        DUE.sentence("MARK. NO: BAD.");
        for (int kind = 0; kind <= 5; kind++) {
            int as = kind;
            claimRange("mark(" + kind + ", n)", (x, n) -> x.mark(as, n), PotLoans.NO);
        }
        for (int c = 0; c < 4; c++) {
            int of = c;
            range("mark(n, " + c + ")", () -> Due.told(FULL_VILLAGE), (x, n) -> x.mark(n, of), PotLoans.NO, 0, 5);
        }
    }

    private static void images() {
        DUE.sentence("An IMAGE is kept: PURSE. BAD.");
        range("keep(n)", (x, n) -> x.keep(n), 0, 1);
        range("keep(n), a new object", PotLoans::new, (x, n) -> x.keep(n), PotLoans.BAD, 0, 1);
        DUE.sentence("All of that becomes as an IMAGE has it: PURSE. BAD; STATE: none was kept.");
        range("back(n), none kept", (x, n) -> x.back(n), 0, 1);
        range("back(n), both kept", CallBoundsTest::bothKept, (x, n) -> x.back(n), PotLoans.BAD, 0, 1);
        for (int image = 0; image <= 1; image++) {
            PotLoans x = new PotLoans();
            is("back(" + image + "), none kept", x.back(image), PotLoans.STATE);
            is("keep(" + (1 - image) + ")", x.keep(1 - image), 50);
            is("back(" + image + "), the other is kept", x.back(image), PotLoans.STATE);
            is("keep(" + image + ")", x.keep(image), 50);
            is("back(" + image + "), kept", x.back(image), 50);
            is("back(" + image + "), once more", x.back(image), 50);
        }
    }

    private static PotLoans bothKept() {
        PotLoans x = new PotLoans();
        x.keep(0);
        x.keep(1);
        return x;
    }

    private static void counts() {
        DUE.sentence("0 CLAUSES, 1 CLASHES, 2 CLAIMS, 3 TOLD, 4 how many may be UNDONE, 5 bytes of THE TEXT. BAD.");
        range("count(n)", (x, n) -> x.count(n), 0, 5);
        range("count(n), a new object", PotLoans::new, (x, n) -> x.count(n), PotLoans.BAD, 0, 5);
        PotLoans x = Due.told("c0;".repeat(8) + "x6 7;".repeat(8) + "m0 1;".repeat(6) + "p0;");
        int[] most = {8, 8, 6, 6, 10, 220};
        for (int i = 0; i < 11; i++) {
            is("makes(0)", x.makes(0), 3);
        }
        for (int i = 0; i < 7; i++) {
            x.tells(0, 3);
        }
        for (int i = 0; i < 221; i++) {
            x.type(32);
        }
        for (int what = 0; what < most.length; what++) {
            is("count(" + what + "), full", x.count(what), most[what]);
        }
    }

    private static void noArguments() {
        DUE.sentence("As told; no CLAUSES, no CLAIMS.");
        PotLoans x = new PotLoans();
        is("clear()", x.clear(), 0);
        is("undo()", x.undo(), PotLoans.STATE);
        is("forget()", x.forget(), 0);
        is("trace()", x.trace(), 0);
        is("clause(0, 0)", x.clause(0, 0), PotLoans.BAD);
        is("claim(0, 0)", x.claim(0, 0), PotLoans.BAD);
        for (int what = 0; what < 6; what++) {
            is("count(" + what + ")", x.count(what), 0);
            is("now(" + what + ")", x.now(what), what == 2 ? 50 : 0);
        }
        is("now(6)", x.now(6), 0);
        is("back(0)", x.back(0), PotLoans.STATE);
        is("back(1)", x.back(1), PotLoans.STATE);
        is("village()", x.village(), 0);
    }

    private static void calls512() {
        DUE.sentence("An object is used for at most 512 calls after it has been made");
        PotLoans x = new PotLoans();
        Due.type(x, "m0 9;p8;");
        is("village(), the 9th call", x.village(), 2);
        for (int i = 1; i <= 502; i++) {
            is("makes(0), call " + (9 + i), x.makes(0), 3);
        }
        is("now(4), the 512th call", x.now(4), 502);
        PotLoans y = Due.told("m9 0;");
        for (int i = 1; i <= 505; i++) {
            y.mark(4, 0);
        }
        is("trace(), the 512th call", y.trace(), 505L * 10101);
    }
}
