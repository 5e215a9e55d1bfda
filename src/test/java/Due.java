/** Compares answers with those that are due, and tells at the end whether one was not. */
final class Due {
    private final String test;
    private String words = "";
    private int looked;
    private int wrong;

    Due(String test) {
        this.test = test;
    }

    /** What is looked at from here on stands in these words of the document (SentencesTest). */
    void says(String words) {
        this.words = words;
    }

    void is(String call, long got, long want) {
        looked++;
        if (got != want) {
            isWrong(call + " answered " + got + ", due is " + want);
        }
    }

    void holds(String what, boolean isSo) {
        looked++;
        if (!isSo) {
            isWrong("it does not hold that " + what);
        }
    }

    private void isWrong(String what) {
        wrong++;
        System.out.println(test + ": " + what + (words.isEmpty() ? "" : "; the document says: " + words));
    }

    void end() {
        System.out.println(test + ": " + looked + " looked at, " + wrong + " wrong");
        if (wrong != 0 || looked == 0) {
            System.exit(1);
        }
    }

    /** Feeds a text, letter by letter, and answers what bay() does. */
    static int tell(TowardTheLoudest bay, String text) {
        for (int at = 0; at < text.length(); at++) {
            bay.feed(text.charAt(at));
        }
        return bay.bay();
    }

    /** A new object with the bay that a text tells. */
    static TowardTheLoudest told(String text) {
        TowardTheLoudest bay = new TowardTheLoudest();
        int answer = tell(bay, text);
        if (answer < 0) {
            throw new IllegalStateException("the test's own bay has a fault: " + text + " " + answer);
        }
        return bay;
    }
}
