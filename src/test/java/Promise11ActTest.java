/** Promise 11: act. */
final class Promise11ActTest {
    private static final Due due = new Due("Promise 11");

    public static void main(String[] args) {
        numbers();
        noSuch();
        due.finish();
    }

    private static void numbers() {
        due.sentence("Of an ACT: 0 YEAR, 1 LIFE, 2 PUBLIC, 3 PICTURES, 4 LATE, 5 FLAGS");
        Subject x = Subject.busy();
        due.row(x, 0, new int[] {1900, 50, 60, 25, 10, 0}, "act", 0, 0);
        due.row(x, 0, new int[] {1960, 70, 72, 50, 20, 6}, "act", 0, 1);
        due.row(x, 0, new int[] {1920, 60, 50, 30, 5, 9}, "act", 1, 0);
        due.leaves(Subject::busy, 1960, "act", 0, 1, 0);
        Subject y = Subject.full();
        due.row(y, 0, new int[] {1803, 0, 0, 0, 0, 0}, "act", 3, 3);
        due.row(y, 0, new int[] {1700, 0, 0, 0, 0, 0}, "act", 0, 0);
    }

    private static void noSuch() {
        due.sentence("BAD: there is no such land, ACT, number of one");
        for (int out : new int[] {-1, Subject.MIN, Subject.MAX}) {
            due.bad("act", out, 0, 0);
            due.bad("act", 0, out, 0);
            due.bad("act", 0, 0, out);
        }
        due.bad("act", 2, 0, 0);
        due.bad("act", 0, 2, 0);
        due.bad("act", 1, 1, 0);
        due.bad("act", 0, 0, 6);
        due.is(new Subject(), Subject.BAD, "act", 0, 0, 0);
        Subject x = Subject.full();
        due.is(x, Subject.BAD, "act", 4, 0, 0);
        due.is(x, Subject.BAD, "act", 3, 4, 0);
        due.is(x, Subject.BAD, "act", 0, 4, 0);
        due.sentence("BAD: an ACT that is gone, a land that is told no more");
        x.call("repeal", 3);
        due.is(x, Subject.BAD, "act", 3, 3, 0);
        x.feed(Subject.LAND).call("rights");
        due.is(x, Subject.BAD, "act", 1, 0, 0);
        due.is(x, Subject.BAD, "act", 0, 1, 0);
    }

    private Promise11ActTest() {
    }
}
