/** Compares answers with those that are due, and tells at the end whether one was not. */
final class Due {
    private final String test;
    private int looked;
    private int wrong;

    Due(String test) {
        this.test = test;
    }

    void is(String call, long got, long want) {
        looked++;
        if (got != want) {
            wrong++;
            System.out.println(test + ": " + call + " answered " + got + ", due is " + want);
        }
    }

    void holds(String what, boolean isSo) {
        looked++;
        if (!isSo) {
            wrong++;
            System.out.println(test + ": it does not hold that " + what);
        }
    }

    void end() {
        System.out.println(test + ": " + looked + " looked at, " + wrong + " wrong");
        if (wrong != 0 || looked == 0) {
            System.exit(1);
        }
    }

    /** Feeds a text, letter by letter, and answers what bay() does. */
    static int tell(TowardTheLoudest bay, String text) {
        for (int at = 0; at < text.length(); at++) {
            bay.feed(text.charAt(at));
        }
        return bay.bay();
    }

    /** A new object with the bay that a text tells. */
    static TowardTheLoudest told(String text) {
        TowardTheLoudest bay = new TowardTheLoudest();
        int answer = tell(bay, text);
        if (answer < 0) {
            throw new IllegalStateException("the test's own bay has a fault: " + text + " " + answer);
        }
        return bay;
    }
}
