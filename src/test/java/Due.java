/** Compares answers with those that are due, and tells the ones that are not. */
final class Due {
    static final int NONE = -1000000, BAD = -1000001, STATE = -1000002, FULL = -1000003, NEVER = 9999;
    private int wrong = 0;
    private int asked = 0;

    void is(String call, int got, int want) {
        asked++;
        if (got != want) {
            wrong++;
            System.out.println(call + " answered " + got + ", due is " + want);
        }
    }

    /** Feeds a text byte by byte. */
    static void feed(RightTerms x, String text) {
        for (int i = 0; i < text.length(); i++) {
            x.feed(text.charAt(i));
        }
    }

    /** A new object that has read a text. */
    static RightTerms read(String text) {
        RightTerms x = new RightTerms();
        feed(x, text);
        int answer = x.rights();
        if (answer < 0) {
            throw new IllegalStateException(text + " was not read: " + answer + ", fault " + x.fault());
        }
        return x;
    }

    void finish() {
        System.out.println(asked + " answers, " + wrong + " not as due");
        if (wrong != 0) {
            System.exit(1);
        }
    }
}
