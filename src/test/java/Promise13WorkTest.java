/** Promise 13: work. */
final class Promise13WorkTest {
    private static final Due due = new Due("Promise 13");

    public static void main(String[] args) {
        numbers();
        noSuch();
        due.finish();
    }

    private static void numbers() {
        due.sentence("Of a WORK: 0 KIND, 1 ORIGIN, 2 MADE, 3 PUBLISHED, 4 AUTHORS");
        Subject x = Subject.busy();
        due.row(x, 0, new int[] {1, 0, 1880, 1890, 1}, "work", 0);
        due.row(x, 0, new int[] {3, 1, 1931, 0, 0}, "work", 1);
        due.leaves(Subject::busy, 1880, "work", 0, 2);
        Subject y = Subject.read(Subject.LAND.repeat(4) + "a;a;a;a;a;a;a;a;"
                + "b3,1500,1500,255;s0,2099,2099,128;p1,1500,0,0;f2,1900,2099,1;n3,2099,0,0;b0,1900,0,2;");
        due.row(y, 0, new int[] {1, 3, 1500, 1500, 255}, "work", 0);
        due.row(y, 0, new int[] {2, 0, 2099, 2099, 128}, "work", 1);
        due.row(y, 0, new int[] {3, 1, 1500, 0, 0}, "work", 2);
        due.row(y, 0, new int[] {4, 2, 1900, 2099, 1}, "work", 3);
        due.row(y, 0, new int[] {5, 3, 2099, 0, 0}, "work", 4);
        due.row(y, 0, new int[] {1, 0, 1900, 0, 2}, "work", 5);
        due.sentence("BAD: there is no such WORK");
        due.is(y, Subject.BAD, "work", 6, 0);
    }

    private static void noSuch() {
        due.sentence("BAD: there is no such WORK, number of one");
        for (int work : new int[] {-1, 2, 6, Subject.MIN, Subject.MAX}) {
            due.bad("work", work, 0);
        }
        for (int what : new int[] {-1, 5, 6, Subject.MIN, Subject.MAX}) {
            due.bad("work", 0, what);
        }
        due.is(Subject.read(Subject.LAND + "a;"), Subject.BAD, "work", 0, 0);
        due.is(new Subject(), Subject.BAD, "work", 0, 0);
        due.sentence("BAD: a WORK that is told no more");
        Subject x = Subject.full();
        x.feed(Subject.LAND + "p0,1900,0,0;").call("rights");
        due.is(x, 1900, "work", 0, 2);
        due.is(x, Subject.BAD, "work", 1, 0);
    }

    private Promise13WorkTest() {
    }
}
