/** Counts the answers that are not the ones due, and ends a test. */
final class Due {
    private final String test;
    private int right;
    private int wrong;

    Due(String test) {
        this.test = test;
    }

    void is(String call, long got, long want) {
        if (got == want) {
            right++;
            return;
        }
        wrong++;
        if (wrong <= 50) {
            System.out.println(test + ": " + call + " answered " + got + ", due is " + want);
        }
    }

    void holds(String what, boolean so) {
        is(what, so ? 1 : 0, 1);
    }

    void end() {
        System.out.println(test + ": " + right + " answers as due, " + wrong + " not");
        if (wrong != 0 || right == 0) {
            System.exit(1);
        }
    }

    /** Types a text and reads it: what village() answered. */
    static int village(PotLoans x, String text) {
        type(x, text);
        return x.village();
    }

    static void type(PotLoans x, String text) {
        for (int i = 0; i < text.length(); i++) {
            x.type(text.charAt(i));
        }
    }

    static PotLoans told(String text) {
        PotLoans x = new PotLoans();
        int items = village(x, text);
        if (items < 0) {
            throw new IllegalStateException("a test's text is at fault: " + text + " " + items);
        }
        return x;
    }
}
