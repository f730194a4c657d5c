/** Promise 23: image. */
final class Promise23ImageTest {
    private static final Due due = new Due("Promise 23");
    private static final String SMALL = "ly1900,50,60,25,10,0;a1900,1910;b0,1880,1890,1;";

    public static void main(String[] args) {
        kept();
        eachByItself();
        bad();
        noRights();
        due.finish();
    }

    private static void kept() {
        due.sentence("An IMAGE (0, 1) is kept of the RIGHTS: 1");
        for (int k = 0; k < 2; k++) {
            Subject x = Subject.read(SMALL);
            String before = x.rights();
            due.is(x, 1, "image", k);
            due.same("what there is, behind image", x.rights(), before);
            due.is(x, 1, "enact", 0, 1950, 1, 1);
            due.is(x, 1, "die", 0, 0, 0);
            due.is(x, 1880, "change", 0, 2, 1500);
            due.is(x, 1, "restore", k);
            due.same("what there is, behind restore", x.rights(), before);
            due.is(x, Subject.STATE, "restore", 1 - k);
        }
        due.sentence("is kept of the RIGHTS: DEEDS, the tape, the FAULT are as they were");
        Subject x = Subject.busy();
        due.is(x, 1, "image", 0);
        due.row(x, 0, new int[] {2, 3, 2, 2, 2, 2}, "count");
        due.is(x, 2, "fault");
        due.is(x, 1, "undo");
        due.is(x, 1930, "work", 1, 2);
        due.sentence("of the RIGHTS: as they are, DEEDS and all");
        due.is(x, 1, "restore", 0);
        due.is(x, 1931, "work", 1, 2);
        due.is(x, 72, "act", 0, 1, 2);
        due.sentence("RIGHTS without an AUTHOR or a WORK");
        due.is(Subject.read(Subject.LAND), 1, "image", 0);
        due.sentence("all of them at their most");
        Subject full = Subject.full();
        due.is(full, 1, "image", 1);
        due.is(full, 1500, "change", 5, 2, 1600);
        due.is(full, 0, "alter", 3, 3, 5, 15);
        due.is(full, 1, "restore", 1);
        due.is(full, 1500, "work", 5, 2);
        due.is(full, 0, "act", 3, 3, 5);
    }

    private static void eachByItself() {
        due.sentence("An IMAGE (0, 1): each by itself, the latest in place of the one before");
        Subject x = Subject.read(SMALL);
        due.is(x, 1, "image", 0);
        x.call("alter", 0, 0, 1, 51);
        due.is(x, 1, "image", 1);
        x.call("alter", 0, 0, 1, 52);
        due.is(x, 1, "restore", 0);
        due.is(x, 50, "act", 0, 0, 1);
        due.is(x, 1, "restore", 1);
        due.is(x, 51, "act", 0, 0, 1);
        x.call("alter", 0, 0, 1, 53);
        due.is(x, 1, "image", 0);
        x.call("alter", 0, 0, 1, 54);
        due.is(x, 1, "restore", 0);
        due.is(x, 53, "act", 0, 0, 1);
        due.is(x, 1, "restore", 1);
        due.is(x, 51, "act", 0, 0, 1);
        due.sentence("an IMAGE is no DEED");
        due.is(x, 1, "image", 0);
        due.is(x, 0, "count", 4);
        due.is(x, Subject.STATE, "undo");
    }

    private static void bad() {
        due.sentence("An IMAGE (0, 1) .. BAD");
        for (int k : new int[] {-1, 2, 3, Subject.MIN, Subject.MAX}) {
            due.bad("image", k);
        }
        due.sentence("the first of these that fits: BAD, STATE");
        for (int k : new int[] {-1, 2, 3, Subject.MIN, Subject.MAX}) {
            due.leaves(Subject::new, Subject.BAD, "image", k);
        }
    }

    private static void noRights() {
        due.sentence("STATE: no RIGHTS");
        due.leaves(Subject::new, Subject.STATE, "image", 0);
        due.leaves(Subject::new, Subject.STATE, "image", 1);
        due.sentence("STATE: no RIGHTS, behind a FAULT too; none was kept then");
        Subject x = new Subject().feed(Subject.LAND + "x");
        due.is(x, Subject.FAULT - 17, "rights");
        due.is(x, Subject.STATE, "image", 0);
        due.is(x, Subject.STATE, "restore", 0);
    }

    private Promise23ImageTest() {
    }
}
