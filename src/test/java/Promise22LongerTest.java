/** Promise 22: longer. The years were counted by hand. */
final class Promise22LongerTest {
    private static final Due due = new Due("Promise 22");

    public static void main(String[] args) {
        laterOrSooner();
        heldToItsBounds();
        theLastAct();
        latest();
        inALand();
        never();
        bad();
        due.finish();
    }

    /** Pairs of n and the answer. */
    private static void longer(String text, int work, int land, int... pairs) {
        Subject x = Subject.read(text);
        due.on(text);
        for (int i = 0; i < pairs.length; i += 2) {
            due.is(x, pairs[i + 1], "longer", work, land, pairs[i]);
        }
    }

    private static void laterOrSooner() {
        due.sentence("By how many YEARS LATEST FREE would be later (or, below 0, sooner)");
        longer("ly1900,49,0,0,0,0;a1900,1920;b0,1890,0,1;", 0, 0, 0, 0, 1, 1, -1, -1, 20, 20, -49, -49, 50, 50, -50, -49);
        due.sentence("LIFE is nothing to a PICTURE, a NAMELESS WORK");
        longer("ly1900,49,9,9,0,0;p0,1890,0,0;n0,1890,0,0;", 0, 0, 50, 0, -50, 0);
        longer("ly1900,49,9,9,0,0;p0,1890,0,0;n0,1890,0,0;", 1, 0, 50, 0, -50, 0);
        due.sentence("sooner, but PUBLISHED is more than that then: later");
        longer("ly1900,50,0,0,30,0;a1900,1900;b0,1890,1949,1;", 0, 0, -1, -1, -2, 29, 1, 1);
    }

    private static void heldToItsBounds() {
        due.sentence("n (-50 to 50) more (held to 0 .. 99)");
        longer("ly1900,99,0,0,0,0;a1900,1900;b0,1890,0,1;", 0, 0, 1, 0, 50, 0, -50, -50);
        longer("ly1900,98,0,0,0,0;a1900,1900;b0,1890,0,1;", 0, 0, 1, 1, 2, 1, 50, 1);
        longer("ly1900,50,0,0,0,0;a1900,1900;b0,1890,0,1;", 0, 0, 49, 49, 50, 49, -50, -50);
        longer("ly1900,49,0,0,0,0;a1900,1900;b0,1890,0,1;", 0, 0, 50, 50, -49, -49, -50, -49);
        longer("ly1900,0,0,0,0,0;a1900,1900;b0,1890,0,1;", 0, 0, -1, 0, -50, 0, 50, 50);
        longer("ly1900,1,0,0,0,0;a1900,1900;b0,1890,0,1;", 0, 0, -1, -1, -2, -1, -50, -1);
    }

    private static void theLastAct() {
        String book = ";a1900,1900;b0,1890,0,1;";
        due.sentence("if LIFE of the land's last ACT were by n more");
        longer("ly1900,70,0,0,0,0;y1960,65,0,0,0,0" + book, 0, 0, 10, 10, -5, -5, -6, -6, -7, -6, -50, -6);
        longer("ly1900,70,0,0,0,0;y1960,65,0,0,0,2" + book, 0, 0, 10, 5, 5, 0, 6, 1, -50, 0);
        longer("ly1900,30,0,0,0,0;y1960,70,0,0,0,0" + book, 0, 0, 29, 0, -50, 0);
        due.sentence("it would come back, or not");
        longer("ly1900,30,0,0,0,0;y1960,50,0,0,0,4" + book, 0, 0, 9, 0, 10, 30, 20, 40);
        longer("ly1900,30,0,0,0,0;y1960,70,0,0,0,4" + book, 0, 0, -10, -10, -11, -40);
        due.sentence("the land's last ACT: be it IN FORCE behind all or not decisive at all");
        longer("ly1900,30,0,0,0,0;y1910,40,0,0,0,0;y1920,50,0,0,0,0;y2000,60,0,0,0,0" + book, 0, 0, 39, 0, -50, 0);
    }

    private static void latest() {
        due.sentence("LATEST FREE: of all k, before and then");
        // k = 0 to 5: published late, to 1945; k = 20: to 1960. By 20 less, all are published late.
        longer("ly1900,40,0,0,0,0;a1900,1920;b0,1890,1945,1;", 0, 0, -20, -15, -14, -14, -15, -15, -16, -15, 5, 5);
        // K is 60 at most.
        longer("ly1900,40,0,0,0,0;a1900,1990;b0,1890,0,1;", 0, 0, 10, 10);
    }

    private static void inALand() {
        String book = "a1900,1900;b0,1890,0,1;";
        due.sentence("in a land: of that land's last ACT");
        String lands = "ly1900,50,0,0,0,0;ly1900,50,0,0,0,8;" + book;
        longer(lands, 0, 1, 20, 0, -20, -20, 0, 0);
        longer(lands, 0, 0, 20, 20, -20, -20);
        longer("ly1900,60,0,0,0,0;ly1900,50,0,0,0,8;" + book, 0, 1, 10, 10, 11, 10, 20, 10);
    }

    private static void never() {
        due.sentence("NONE: it is NEVER, before or then");
        longer("ly1900,50,0,0,0,0;a;b0,1890,0,1;", 0, 0, 0, Subject.NONE, 50, Subject.NONE, -50, Subject.NONE);
        longer("ly1900,50,0,0,0,1;y1940,50,0,0,0,2;a1900,1900;a;b0,1890,0,3;", 0, 0, 5, Subject.NONE);
        due.sentence("NEVER: LATEST, EARLIEST being a YEAR");
        longer("ly1900,50,0,0,0,0;y1951,60,0,0,0,1;a1900,1901;a;b0,1890,0,3;", 0, 0, 5, Subject.NONE, 0, Subject.NONE);
        due.sentence("a PICTURE by one who LIVES is not");
        longer("ly1900,50,0,9,0,0;a;p0,1890,0,1;", 0, 0, 5, 0);
    }

    private static void bad() {
        due.sentence("n (-50 to 50); BAD");
        due.leaves(Subject::busy, 29, "longer", 0, 0, 50);
        due.leaves(Subject::busy, 29, "longer", 0, 0, 29);
        due.leaves(Subject::busy, 28, "longer", 0, 0, 28);
        due.leaves(Subject::busy, -20, "longer", 0, 0, -50);
        for (int n : new int[] {-51, 51, Subject.MIN, Subject.MAX}) {
            due.bad("longer", 0, 0, n);
        }
        due.sentence("BAD: there is no such WORK, land");
        for (int out : new int[] {-1, 2, 8, Subject.MIN, Subject.MAX}) {
            due.bad("longer", out, 0, 0);
            due.bad("longer", 0, out, 0);
        }
        due.sentence("BAD ahead of NONE");
        due.is(Subject.read("ly1900,50,0,0,0,0;a;b0,1890,0,1;"), Subject.BAD, "longer", 0, 0, 51);
        Subject x = Subject.full();
        due.is(x, 0, "longer", 5, 3, 50);
        due.is(x, Subject.BAD, "longer", 6, 3, 50);
        due.is(x, Subject.BAD, "longer", 5, 4, 50);
        due.is(x, 12, "count", 4);
        due.is(new Subject(), Subject.BAD, "longer", 0, 0, 0);
    }

    private Promise22LongerTest() {
    }
}
