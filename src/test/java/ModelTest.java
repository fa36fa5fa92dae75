import java.util.Random;

/** Runs of calls drawn by fixed seeds: PotLoans has to answer what the plain model answers. */
public final class ModelTest {
    private static final Due DUE = new Due("ModelTest");
    private static final String LETTERS = "hcxmpgqz;; ;0123456789 ~\t";

    private final Random draw;
    private final long seed;
    private final PotLoans x = new PotLoans();
    private final PlainLoans plain = new PlainLoans();
    private int calls;

    private ModelTest(long seed) {
        this.seed = seed;
        draw = new Random(seed);
    }

    public static void main(String[] args) {
        for (long seed = 0; seed < 400; seed++) {
            new ModelTest(seed).run();
        }
        for (long seed = 10000; seed < 12500; seed++) {
            new ModelTest(seed).texts();
        }
        DUE.end();
    }

    private void is(String call, long got, long want) {
        calls++;
        DUE.is("seed " + seed + " call " + calls + ": " + call, got, want);
    }

    private void run() {
        for (int village = 0; village < 2; village++) {
            read(draw.nextInt(5) == 0 ? spoilt(someText()) : someText());
            for (int i = 0; i < 90 && calls < 500; i++) {
                oneCall();
            }
            if (calls < 250) {
                everyAnswer();
            }
        }
    }

    private void texts() {
        for (int i = 0; i < 2; i++) {
            String text = someText();
            if (draw.nextInt(4) == 0) {
                text = crowded();
            }
            for (int times = draw.nextInt(3); times > 0; times--) {
                text = spoilt(text);
            }
            read(text);
            is("clear()", x.clear(), plain.clear());
            everyThingTold();
        }
    }

    private void read(String text) {
        for (int i = 0; i < text.length(); i++) {
            is("type(" + (int) text.charAt(i) + ")", x.type(text.charAt(i)), plain.type(text.charAt(i)));
        }
        is("village() of " + text, x.village(), plain.village());
    }

    private void everyThingTold() {
        for (int what = 0; what <= 5; what++) {
            is("count(" + what + ")", x.count(what), plain.count(what));
            is("now(" + what + ")", x.now(what), plain.now(what));
            for (int c = 0; c < 6; c++) {
                is("claim(" + c + ", " + what + ")", x.claim(c, what), plain.claim(c, what));
            }
        }
        for (int c = 0; c < 8; c++) {
            for (int what = 0; what <= 2; what++) {
                is("clause(" + c + ", " + what + ")", x.clause(c, what), plain.clause(c, what));
            }
        }
    }

    private void everyAnswer() {
        everyThingTold();
        for (int c = 0; c < plain.count(2); c++) {
            for (int i = -1; i < 7; i++) {
                is("row(" + c + ", " + i + ")", x.row(c, i), plain.row(c, i));
            }
        }
        for (int b = 0; b < 8; b++) {
            is("steps(" + b + ")", x.steps(b), plain.steps(b));
        }
        is("haul(0)", x.haul(0), plain.haul(0));
        is("haul(1)", x.haul(1), plain.haul(1));
        is("together(0)", x.together(0), plain.together(0));
        is("together(1)", x.together(1), plain.together(1));
        is("trace()", x.trace(), plain.trace());
    }

    private void oneCall() {
        int c = draw.nextInt(40) == 0 ? wild() : draw.nextInt(6);
        int b = draw.nextInt(40) == 0 ? wild() : draw.nextInt(8);
        int what = draw.nextInt(40) == 0 ? wild() : draw.nextInt(7);
        int flag = draw.nextInt(40) == 0 ? wild() : draw.nextInt(2);
        switch (draw.nextInt(26)) {
            case 0, 1, 2, 3 -> is("makes(" + c + ")", x.makes(c), plain.makes(c));
            case 4 -> is("recants(" + b + ")", x.recants(b), plain.recants(b));
            case 5 -> is("holds(" + b + ")", x.holds(b), plain.holds(b));
            case 6 -> is("undo()", x.undo(), plain.undo());
            case 7 -> is("keep(" + flag + ")", x.keep(flag), plain.keep(flag));
            case 8 -> is("back(" + flag + ")", x.back(flag), plain.back(flag));
            case 9 -> is("steps(" + b + ")", x.steps(b), plain.steps(b));
            case 10 -> {
                int set = draw.nextInt(300) - 20;
                is("would(" + set + ")", x.would(set), plain.would(set));
            }
            case 11 -> is("together(" + flag + ")", x.together(flag), plain.together(flag));
            case 12 -> is("row(" + c + ", " + (what - 2) + ")", x.row(c, what - 2), plain.row(c, what - 2));
            case 13 -> is("haul(" + flag + ")", x.haul(flag), plain.haul(flag));
            case 14, 15 -> {
                int v = draw.nextInt(10) == 0 ? wild() : draw.nextInt(1 + Math.max(0, plain.haul(0)));
                is("forbid(" + v + ")", x.forbid(v), plain.forbid(v));
            }
            case 16, 17 -> {
                int in = draw.nextInt(13) - 1;
                is("odds(" + c + ", " + in + ", 0)", x.odds(c, in, 0), plain.odds(c, in, 0));
                is("odds(" + c + ", " + in + ", 1)", x.odds(c, in, 1), plain.odds(c, in, 1));
            }
            case 18 -> is("tells(" + c + ", " + (what - 1) + ")", x.tells(c, what - 1), plain.tells(c, what - 1));
            case 19 -> is("forget()", x.forget(), plain.forget());
            case 20, 21 -> {
                if (draw.nextInt(2) == 0) {
                    int how = plain.claim(c, 5);
                    is("tells(" + c + ", " + how + ")", x.tells(c, how), plain.tells(c, how));
                }
                is("believed(" + (what - 2) + ")", x.believed(what - 2), plain.believed(what - 2));
            }
            case 22 -> {
                is("mark(" + what + ", " + c + ")", x.mark(what, c), plain.mark(what, c));
                is("trace()", x.trace(), plain.trace());
            }
            case 23 -> is("claim(" + c + ", " + what + ")", x.claim(c, what), plain.claim(c, what));
            case 24 -> is("clause(" + b + ", " + (what - 2) + ")", x.clause(b, what - 2), plain.clause(b, what - 2));
            default -> {
                is("now(" + what + ")", x.now(what), plain.now(what));
                is("count(" + what + ")", x.count(what), plain.count(what));
            }
        }
    }

    private int wild() {
        int[] some = {-1, -2, 6, 7, 8, 9, 10, 99, 999, 1000, Integer.MAX_VALUE, Integer.MIN_VALUE, 31, 32, -9};
        return some[draw.nextInt(some.length)];
    }

    // ---- texts

    private String someText() {
        StringBuilder s = new StringBuilder();
        if (draw.nextInt(3) != 0) {
            s.append("h").append(beliefs(3)).append(";");
        }
        for (int i = draw.nextInt(7); i > 0; i--) {
            s.append(gap()).append("c").append(gap()).append(draw.nextInt(8)).append(beliefs(3)).append(";");
        }
        for (int i = draw.nextInt(5); i > 0; i--) {
            int a = draw.nextInt(8);
            s.append("x").append(gap()).append(a).append(" ").append((a + 1 + draw.nextInt(7)) % 8).append(gap()).append(";");
        }
        for (int i = draw.nextInt(7); i > 0; i--) {
            s.append(gap()).append("m").append(coins()).append(" ").append(coins()).append(beliefs(3));
            if (draw.nextInt(4) != 0) {
                s.append(gap()).append("g").append(beliefs(2));
            }
            s.append(";");
        }
        if (draw.nextInt(2) == 0) {
            s.append("p").append(draw.nextInt(100)).append(";");
        }
        return s.append(gap()).toString();
    }

    /** Many short items, so that the limits of each kind are met. */
    private String crowded() {
        StringBuilder s = new StringBuilder();
        String[] items = {"c1;", "c 2 3;", "x0 1;", "x4 2;", "m0 0;", "m1 2 3 g4;", "h 1;", "p7;", "h;", "c0 1 1 1 1 1 1 1 1;", "m0 0 1 1 1 1 1 1 1 1 g2 2 2 2 2 2 2 2;"};
        String kind = items[draw.nextInt(items.length)];
        for (int i = 0; i < 30; i++) {
            s.append(draw.nextInt(3) == 0 ? items[draw.nextInt(items.length)] : kind);
        }
        return s.substring(0, Math.min(s.length(), 200 + draw.nextInt(30)));
    }

    private String spoilt(String text) {
        if (text.isEmpty()) {
            return text;
        }
        int at = draw.nextInt(text.length());
        char c = LETTERS.charAt(draw.nextInt(LETTERS.length()));
        return switch (draw.nextInt(4)) {
            case 0 -> text.substring(0, at) + text.substring(at + 1);
            case 1 -> text.substring(0, at) + c + text.substring(at + 1);
            case 2 -> text.substring(0, at) + c + text.substring(at);
            default -> text.substring(0, at);
        };
    }

    private String gap() {
        return " ".repeat(draw.nextInt(4) == 0 ? 1 + draw.nextInt(2) : 0);
    }

    private String beliefs(int most) {
        StringBuilder s = new StringBuilder();
        for (int i = draw.nextInt(most + 1); i > 0; i--) {
            s.append(" ").append(draw.nextInt(8));
        }
        return s.toString();
    }

    private int coins() {
        return draw.nextInt(3) == 0 ? draw.nextInt(100) : draw.nextInt(12);
    }
}
