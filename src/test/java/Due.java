/** Counts the answers that are not the ones due, and ends a test. */
final class Due {
    private final String test;
    private String sentence = "";
    private int rightOfSentence = 1;
    private int right;
    private int wrong;

    Due(String test) {
        this.test = test;
    }

    /** The document's words that the rows behind this one hold the class to. */
    void sentence(String words) {
        checkLastSentence();
        sentence = "\"" + words + "\": ";
        rightOfSentence = 0;
    }

    private void checkLastSentence() {
        if (rightOfSentence == 0) {
            wrong++;
            System.out.println(test + ": " + sentence + "no row holds");
        }
    }

    void is(String call, long got, long want) {
        if (got == want) {
            right++;
            rightOfSentence++;
            return;
        }
        wrong++;
        if (wrong <= 50) {
            System.out.println(test + ": " + sentence + call + " answered " + got + ", due is " + want);
        }
    }

    void holds(String what, boolean so) {
        is(what, so ? 1 : 0, 1);
    }

    void end() {
        checkLastSentence();
        System.out.println(test + ": " + right + " answers as due, " + wrong + " not");
        if (wrong != 0 || right == 0) {
            System.exit(1);
        }
    }

    /** Types a text and reads it: what village() answered. */
    static int village(PotLoans x, String text) {
        type(x, text);
        return x.village();
    }

    static void type(PotLoans x, String text) {
        for (int i = 0; i < text.length(); i++) {
            if (x.type(text.charAt(i)) < 1) {
                throw new IllegalStateException("a test's text can't be typed: " + text);
            }
        }
    }

    static PotLoans told(String text) {
        PotLoans x = new PotLoans();
        int items = village(x, text);
        if (items < 0) {
            throw new IllegalStateException("a test's text is at fault: " + text + " " + items);
        }
        return x;
    }
}
