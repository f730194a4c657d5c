/** Promise 5: undo, and the DEEDS of "Terms", part 2. */
final class Promise05UndoTest {
    private static final Due due = new Due("Promise 5");
    private static final String SMALL = "ly1900,50,60,25,10,0;a1900,1910;b0,1880,1890,1;";

    public static void main(String[] args) {
        none();
        everySort();
        nothingBecomesAnother();
        twelve();
        wrapsAround();
        toTheLastCall();
        allSorts();
        whatIsNoDeed();
        whatForgetsThem();
        due.finish();
    }

    private static void none() {
        due.sentence("STATE: none");
        due.leaves(Subject::new, Subject.STATE, "undo");
        due.leaves(() -> Subject.read(SMALL), Subject.STATE, "undo");
        due.leaves(() -> Subject.read(SMALL).times(1, "alter", 0, 0, 1, 9).times(1, "undo"), Subject.STATE, "undo");
    }

    /** A deed, undone: all is as it was. */
    private static void undone(int answer, String name, int... args) {
        Subject x = Subject.busy();
        String before = x.rights();
        due.is(x, answer, name, args);
        due.is(x, 3, "count", 4);
        due.is(x, 2, "undo");
        due.is(x, 2, "count", 4);
        due.same("all, " + Subject.told(name, args) + " being undone", x.rights(), before);
        due.same("all the rest", x.whole(), Subject.busy().whole());
    }

    private static void everySort() {
        due.sentence("The latest DEED is undone: an ACT more");
        undone(2, "enact", 0, 1961, 99, 15);
        undone(1, "enact", 1, 2099, 0, 0);
        due.sentence("The latest DEED is undone: one gone");
        undone(1, "repeal", 0);
        due.sentence("The latest DEED is undone: a number of one told anew");
        undone(50, "alter", 0, 0, 1, 99);
        undone(72, "alter", 0, 1, 2, 0);
        undone(30, "alter", 1, 0, 3, 1);
        undone(5, "alter", 1, 0, 4, 50);
        undone(9, "alter", 1, 0, 5, 6);
        due.sentence("The latest DEED is undone: an AUTHOR's death");
        undone(1, "die", 0, 0, 0);
        undone(1, "die", 0, 1900, 1911);
        undone(1, "die", 1, 1500, 2099);
        due.sentence("The latest DEED is undone: a number of a WORK told anew");
        undone(0, "change", 0, 1, 1);
        undone(1880, "change", 0, 2, 1500);
        undone(1890, "change", 0, 3, 0);
        undone(1, "change", 0, 4, 3);
        undone(0, "change", 1, 4, 2);
    }

    private static void nothingBecomesAnother() {
        due.sentence("also such by which nothing becomes another");
        undone(50, "alter", 0, 0, 1, 50);
        undone(6, "alter", 0, 1, 5, 6);
        undone(0, "die", 0, 1900, 1910);
        undone(0, "die", 1, 0, 0);
        undone(0, "change", 0, 1, 0);
        undone(1880, "change", 0, 2, 1880);
        undone(1890, "change", 0, 3, 1890);
        undone(1, "change", 0, 4, 1);
    }

    /** LIFE is 1, 2 .. n, one behind the other. */
    private static Subject lives(int n) {
        Subject x = Subject.read(SMALL);
        for (int life = 1; life <= n; life++) {
            due.is(x, life == 1 ? 50 : life - 1, "alter", 0, 0, 1, life);
            due.is(x, Math.min(life, 12), "count", 4);
        }
        return x;
    }

    private static void twelve() {
        due.sentence("DEEDS (12 at most are kept, of more the oldest is forgotten; the latest first)");
        for (int n : new int[] {1, 2, 11, 12, 13, 14, 23, 24, 25, 26, 60}) {
            Subject x = lives(n);
            int kept = Math.min(n, 12);
            for (int left = kept - 1; left >= 0; left--) {
                due.is(x, left, "undo");
                due.is(x, left, "count", 4);
                int life = n - kept + left;
                due.is(x, life == 0 ? 50 : life, "act", 0, 0, 1);
            }
            due.is(x, Subject.STATE, "undo");
            due.is(x, Subject.STATE, "undo");
            due.is(x, 0, "count", 4);
            due.is(x, n <= 12 ? 50 : n - 12, "act", 0, 0, 1);
        }
    }

    private static void wrapsAround() {
        due.sentence("the latest first: DEEDS behind ones that were undone");
        Subject x = lives(15);
        for (int left = 11; left >= 7; left--) {
            due.is(x, left, "undo");
        }
        due.is(x, 10, "act", 0, 0, 1);
        for (int life = 20; life < 26; life++) {
            due.is(x, life == 20 ? 10 : life - 1, "alter", 0, 0, 1, life);
        }
        due.is(x, 12, "count", 4);
        int[] then = {24, 23, 22, 21, 20, 10, 9, 8, 7, 6, 5, 4};
        for (int i = 0; i < 12; i++) {
            due.is(x, 11 - i, "undo");
            due.is(x, then[i], "act", 0, 0, 1);
        }
        due.is(x, Subject.STATE, "undo");
        due.is(x, 4, "act", 0, 0, 1);
        due.is(x, 4, "alter", 0, 0, 1, 77);
        due.is(x, 0, "undo");
        due.is(x, 4, "act", 0, 0, 1);
    }

    private static void toTheLastCall() {
        due.sentence("An object is used for at most 512 calls after it has been made");
        // 48 calls to read the text, 463 deeds: the 512th call undoes the latest one.
        Subject x = Subject.read(SMALL);
        for (int i = 1; i <= 463; i++) {
            due.is(x, i == 1 ? 50 : (i - 1) % 100, "alter", 0, 0, 1, i % 100);
        }
        due.is(x, 11, "undo");
    }

    private static void allSorts() {
        due.sentence("each can be undone, the latest first: DEEDS of all sorts");
        Subject x = Subject.read(SMALL);
        String before = x.rights();
        due.is(x, 1, "enact", 0, 1960, 5, 5);
        due.is(x, 1, "die", 0, 1950, 1960);
        due.is(x, 1880, "change", 0, 2, 1870);
        due.is(x, 25, "alter", 0, 1, 3, 9);
        String then = x.rights();
        due.is(x, 1, "repeal", 0);
        due.is(x, 1, "enact", 0, 1901, 1, 1);
        due.is(x, 5, "undo");
        due.is(x, Subject.BAD, "act", 0, 1, 0);
        due.is(x, 4, "undo");
        due.same("the act that was gone", x.rights(), then);
        due.is(x, 3, "undo");
        due.is(x, 25, "act", 0, 1, 3);
        due.is(x, 2, "undo");
        due.is(x, 1880, "work", 0, 2);
        due.is(x, 1, "undo");
        due.is(x, 1900, "author", 0, 0);
        due.is(x, 0, "undo");
        due.same("all undone", x.rights(), before);
        due.is(x, Subject.STATE, "undo");
    }

    private static Subject twelveDeeds() {
        return Subject.read("ly1900,50,60,25,10,0;a1900,1910;").times(12, "die", 0, 0, 0);
    }

    private static void whatIsNoDeed() {
        due.sentence("What is refused changes nothing: it is no DEED, and none is forgotten for it");
        due.leaves(Promise05UndoTest::twelveDeeds, Subject.BAD, "enact", 0, 1900, 0, 0);
        due.leaves(Promise05UndoTest::twelveDeeds, Subject.STATE, "repeal", 0);
        due.leaves(Promise05UndoTest::twelveDeeds, Subject.BAD, "alter", 0, 0, 1, 100);
        due.leaves(Promise05UndoTest::twelveDeeds, Subject.BAD, "die", 0, 1900, 1899);
        due.leaves(Promise05UndoTest::twelveDeeds, Subject.BAD, "change", 0, 2, 1900);
        due.sentence("an image, a question, a byte, an undone DEED is no DEED");
        Subject x = Subject.busy();
        x.call("image", 1);
        x.call("longer", 0, 0, 5);
        x.call("author", 0, 3);
        x.call("feed", 'l');
        due.is(x, 2, "count", 4);
        due.is(x, 1, "undo");
        due.is(x, 1, "count", 4);
    }

    private static void whatForgetsThem() {
        due.sentence("RIGHTS that are read: no DEED can be undone");
        Subject x = Subject.busy();
        x.call("rights");
        due.is(x, 2, "count", 4);
        due.is(x.feed(SMALL), 1, "rights");
        due.leaves(() -> Subject.read(SMALL), Subject.STATE, "undo");
        due.is(x, Subject.STATE, "undo");
        due.is(x, 50, "act", 0, 0, 1);
        due.sentence("All is as an IMAGE kept it (no DEED can be undone then)");
        Subject y = Subject.busy();
        due.is(y, 1, "restore", 0);
        due.is(y, Subject.STATE, "undo");
        due.is(y, 71, "alter", 0, 1, 2, 3);
        due.is(y, 0, "undo");
        due.is(y, 71, "act", 0, 1, 2);
    }

    private Promise05UndoTest() {
    }
}
