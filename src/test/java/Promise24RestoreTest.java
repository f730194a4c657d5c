/** Promise 24: restore. */
final class Promise24RestoreTest {
    private static final Due due = new Due("Promise 24");

    public static void main(String[] args) {
        asItKeptIt();
        noDeedThen();
        again();
        behindOtherRights();
        bad();
        noneWasKept();
        due.finish();
    }

    private static void asItKeptIt() {
        due.sentence("All is as an IMAGE kept it: 1");
        Subject x = Subject.busy();
        due.is(x, 1, "image", 1);
        String kept = x.rights();
        x.call("enact", 0, 2000, 1, 1);
        x.call("repeal", 0);
        x.call("repeal", 0);
        x.call("alter", 1, 0, 5, 0);
        x.call("die", 1, 1900, 1900);
        x.call("change", 0, 4, 2);
        due.is(x, 1, "restore", 1);
        due.same("what there is", x.rights(), kept);
        due.sentence("All: of the RIGHTS; the tape and the FAULT are none of them");
        due.is(x, 2, "count", 5);
        due.is(x, 2, "fault");
        due.is(x, 3, "feed", '1');
        due.is(x, Subject.FAULT - 2, "rights");
        due.same("what there is, behind a fault", x.rights(), kept);
    }

    private static void noDeedThen() {
        due.sentence("(no DEED can be undone then)");
        Subject x = Subject.busy();
        due.is(x, 2, "count", 4);
        due.is(x, 1, "restore", 0);
        due.is(x, 0, "count", 4);
        due.leaves(() -> Subject.busy().times(1, "restore", 0), Subject.STATE, "undo");
        due.is(x, 71, "act", 0, 1, 2);
        due.sentence("no DEED can be undone then: later ones can");
        due.is(x, 71, "alter", 0, 1, 2, 5);
        due.is(x, 1, "count", 4);
        due.is(x, 0, "undo");
        due.is(x, 71, "act", 0, 1, 2);
        due.sentence("no DEED can be undone then: of 12");
        Subject y = Subject.full();
        due.is(y, 1, "image", 0);
        due.is(y, 12, "count", 4);
        due.is(y, 1, "restore", 0);
        due.is(y, 0, "count", 4);
        due.is(y, Subject.STATE, "undo");
    }

    private static void again() {
        due.sentence("as an IMAGE kept it: again and again, whatever is done then");
        Subject x = Subject.busy();
        for (int life = 1; life <= 5; life++) {
            due.is(x, 1, "restore", 0);
            due.is(x, 50, "alter", 0, 0, 1, life);
            due.is(x, 1930, "change", 1, 2, 1900 + life);
            due.is(x, 1, "die", 0, 0, 0);
        }
        due.is(x, 1, "restore", 0);
        due.row(x, 0, new int[] {1900, 50, 60, 25, 10, 0}, "act", 0, 0);
        due.row(x, 0, new int[] {3, 1, 1930, 0, 0}, "work", 1);
        due.row(x, 0, new int[] {1900, 1910}, "author", 0);
    }

    private static void behindOtherRights() {
        due.sentence("IMAGES stay: behind RIGHTS with less, and with more");
        Subject x = Subject.busy();
        x.call("rights");
        due.is(x.feed(Subject.LAND), 0, "rights");
        due.is(x, 1, "image", 1);
        due.is(x, 1, "restore", 0);
        due.row(x, 0, new int[] {2, 3, 2, 2, 0, 0}, "count");
        due.is(x, 1, "restore", 1);
        due.row(x, 0, new int[] {1, 1, 0, 0, 0, 0}, "count");
        due.is(x, Subject.BAD, "act", 1, 0, 0);
        due.is(x, Subject.BAD, "author", 0, 0);
        due.is(x, Subject.BAD, "work", 0, 0);
        due.is(x, Subject.NONE, "next", 1500, 0, 0);
        due.is(x, 1, "restore", 0);
        due.is(x, 1960, "act", 0, 1, 0);
    }

    private static void bad() {
        due.sentence("an IMAGE (0, 1) .. BAD");
        for (int k : new int[] {-1, 2, 3, Subject.MIN, Subject.MAX}) {
            due.bad("restore", k);
            due.leaves(Subject::new, Subject.BAD, "restore", k);
        }
    }

    private static void noneWasKept() {
        due.sentence("STATE: none was kept");
        due.leaves(Subject::busy, Subject.STATE, "restore", 1);
        due.leaves(Subject::new, Subject.STATE, "restore", 0);
        due.leaves(Subject::new, Subject.STATE, "restore", 1);
        due.leaves(() -> Subject.read(Subject.LAND), Subject.STATE, "restore", 0);
        due.leaves(() -> Subject.read(Subject.LAND), Subject.STATE, "restore", 1);
    }

    private Promise24RestoreTest() {
    }
}
