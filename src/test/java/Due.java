import java.util.Arrays;
import java.util.function.Supplier;

/** Compares answers with those that are due, and tells the ones that are not, with the sentence that they break. */
final class Due {
    private final String promise;
    private String sentence = "";
    private String text = "";
    private int wrong = 0;
    private int asked = 0;

    Due(String promise) {
        this.promise = promise;
    }

    /** The document's sentence that the answers behind it hold. */
    void sentence(String words) {
        sentence = words;
        text = "";
    }

    /** The text on the tape that the answers are about. */
    void on(String tape) {
        text = " [" + tape + "]";
    }

    private void tell(boolean right, String what) {
        asked++;
        if (!right) {
            wrong++;
            System.out.println(promise + ", \"" + sentence + "\"" + text + ": " + what);
        }
    }

    void is(Subject x, int want, String name, int... args) {
        int got = x.call(name, args);
        tell(got == want, Subject.told(name, args) + " answered " + got + ", due is " + want);
    }

    /** Two numbers, where an answer was asked for otherwise. */
    void same(String what, int got, int want) {
        tell(got == want, what + " is " + got + ", due is " + want);
    }

    void same(String what, String got, String want) {
        tell(got.equals(want), what + " is\n" + got + "\ndue is\n" + want);
    }

    /** The answer of a new object, which is then the same as one that was not asked. */
    void leaves(Supplier<Subject> made, int want, String name, int... args) {
        Subject x = made.get();
        is(x, want, name, args);
        same("all behind " + Subject.told(name, args), x.whole(), made.get().whole());
    }

    /** BAD, from a busy object, which stays as it is. */
    void bad(String name, int... args) {
        leaves(Subject::busy, Subject.BAD, name, args);
    }

    /** The answers of calls that differ in their last number, from a first one on. */
    void row(Subject x, int first, int[] want, String name, int... args) {
        int[] all = Arrays.copyOf(args, args.length + 1);
        for (int i = 0; i < want.length; i++) {
            all[args.length] = first + i;
            is(x, want[i], name, all);
        }
    }

    void finish() {
        System.out.println(promise + ": " + asked + " answers, " + wrong + " not as due");
        if (wrong != 0) {
            System.exit(1);
        }
    }
}
