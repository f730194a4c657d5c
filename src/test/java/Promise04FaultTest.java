/** Promise 4: fault. */
final class Promise04FaultTest {
    private static final Due due = new Due("Promise 4");
    private static final String LAND = Subject.LAND;

    public static void main(String[] args) {
        beforeOne();
        theLatest();
        whatLeavesIt();
        due.finish();
    }

    private static void beforeOne() {
        due.sentence("0 before one");
        Subject x = new Subject();
        due.is(x, 0, "fault");
        due.is(x.feed("ly1699"), 0, "fault");
        due.is(Subject.read(LAND), 0, "fault");
        due.is(x, Subject.FAULT - 2, "rights");
        due.is(x, 2, "fault");
    }

    private static void fails(Subject x, String text, int place, int number) {
        due.on(text);
        due.is(x.feed(text), Subject.FAULT - place, "rights");
        due.is(x, number, "fault");
        due.is(x, number, "fault");
    }

    private static void theLatest() {
        due.sentence("The number of the latest FAULT");
        Subject x = new Subject();
        fails(x, LAND + "a;".repeat(9), 33, 3);
        fails(x, "ly1699", 2, 2);
        fails(x, "x", 0, 1);
        fails(x, "ly1700,100,", 7, 2);
        fails(x, LAND + "p0,1900,0,0;".repeat(7), 89, 3);
        fails(x, "", 0, 1);
        fails(x, "", 0, 1);
        due.sentence("The number of the latest FAULT: RIGHTS without one leave it");
        due.is(x.feed(LAND), 0, "rights");
        due.is(x, 1, "fault");
        fails(x, "ly1699", 2, 2);
    }

    private static void whatLeavesIt() {
        due.sentence("The number of the latest FAULT: what is refused, done, undone, restored leaves it");
        Subject x = Subject.busy();
        due.is(x, 2, "fault");
        due.is(x, Subject.BAD, "feed", 256);
        due.is(x, 2, "fault");
        due.is(x, Subject.BAD, "enact", 0, 1960, 0, 0);
        due.is(x, 2, "fault");
        due.is(x, 1, "undo");
        due.is(x, 2, "fault");
        due.is(x, 1, "image", 1);
        due.is(x, 2, "fault");
        due.is(x, 1, "restore", 0);
        due.is(x, 2, "fault");
        due.sentence("fault() changes nothing");
        due.leaves(Subject::busy, 2, "fault");
        due.leaves(Subject::new, 0, "fault");
    }

    private Promise04FaultTest() {
    }
}
