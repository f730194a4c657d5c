/** Promise 25: count. */
final class Promise25CountTest {
    private static final Due due = new Due("Promise 25");

    public static void main(String[] args) {
        empty();
        busy();
        full();
        bad();
        due.finish();
    }

    private static void empty() {
        due.sentence("How many: none of all");
        due.row(new Subject(), 0, new int[] {0, 0, 0, 0, 0, 0}, "count");
    }

    private static void busy() {
        due.sentence("How many: 0 LANDS, 1 ACTS of all, 2 AUTHORS, 3 WORKS, 4 DEEDS that can be undone, 5 bytes on the tape");
        Subject x = Subject.read("ly1900,0,0,0,0,0;y1901,0,0,0,0,0;ly1900,0,0,0,0,0;ly1900,0,0,0,0,0;a;a;p0,1900,0,0;");
        due.row(x, 0, new int[] {3, 4, 2, 1, 0, 0}, "count");
        x.feed("lyy").times(4, "die", 0, 0, 0);
        due.row(x, 0, new int[] {3, 4, 2, 1, 4, 3}, "count");
        due.sentence("ACTS of all: one more, one gone, undone");
        due.is(x, 1, "enact", 2, 1950, 0, 0);
        due.row(x, 0, new int[] {3, 5, 2, 1, 5, 3}, "count");
        due.is(x, 1, "repeal", 0);
        due.row(x, 0, new int[] {3, 4, 2, 1, 6, 3}, "count");
        due.is(x, 5, "undo");
        due.row(x, 0, new int[] {3, 5, 2, 1, 5, 3}, "count");
        due.sentence("of fewer lands: ACTS of those there are");
        x.call("rights");
        due.is(x.feed(Subject.LAND), 0, "rights");
        due.row(x, 0, new int[] {1, 1, 0, 0, 0, 0}, "count");
    }

    private static void full() {
        due.sentence("How many: at their most");
        Subject x = Subject.full();
        due.row(x, 0, new int[] {4, 16, 8, 6, 12, 0}, "count");
        x.times(250, "feed", 0);
        due.row(x, 0, new int[] {4, 16, 8, 6, 12, 250}, "count");
        due.is(x, 0, "die", 7, 0, 0);
        due.is(x, Subject.FULL, "feed", 0);
        due.row(x, 0, new int[] {4, 16, 8, 6, 12, 250}, "count");
    }

    private static void bad() {
        due.sentence("0 .. 5; BAD");
        for (int what : new int[] {-1, 6, 7, Subject.MIN, Subject.MAX}) {
            due.bad("count", what);
            due.leaves(Subject::new, Subject.BAD, "count", what);
        }
        due.sentence("count changes nothing");
        due.leaves(Subject::busy, 2, "count", 4);
    }

    private Promise25CountTest() {
    }
}
