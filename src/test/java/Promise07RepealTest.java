/** Promise 7: repeal. */
final class Promise07RepealTest {
    private static final Due due = new Due("Promise 7");

    public static void main(String[] args) {
        theLastIsGone();
        theOnlyOne();
        lands();
        due.finish();
    }

    private static void theLastIsGone() {
        due.sentence("The last ACT of a land is gone: how many there are yet");
        Subject x = Subject.read("ly1900,1,2,3,4,5;y1910,6,7,8,9,10;y1920,11,12,13,14,15;y1930,1,1,1,1,1;ly1940,2,2,2,2,2;y1950,3,3,3,3,3;");
        due.is(x, 3, "repeal", 0);
        due.is(x, Subject.BAD, "act", 0, 3, 0);
        due.row(x, 0, new int[] {1920, 11, 12, 13, 14, 15}, "act", 0, 2);
        due.is(x, 2, "inForce", 0, 2299);
        due.is(x, 2, "repeal", 0);
        due.is(x, 1, "repeal", 0);
        due.row(x, 0, new int[] {1900, 1, 2, 3, 4, 5}, "act", 0, 0);
        due.is(x, Subject.BAD, "act", 0, 1, 0);
        due.is(x, 0, "inForce", 0, 2299);
        due.is(x, 3, "count", 1);
        due.row(x, 0, new int[] {1950, 3, 3, 3, 3, 3}, "act", 1, 1);
        due.is(x, 1, "repeal", 1);
        due.is(x, 4, "count", 4);
        due.sentence("STATE: it is the only one");
        due.is(x, Subject.STATE, "repeal", 0);
        due.is(x, Subject.STATE, "repeal", 1);
        due.is(x, 4, "count", 4);
        due.is(x, 2, "count", 1);
    }

    private static void theOnlyOne() {
        due.sentence("STATE: it is the only one");
        due.leaves(Subject::busy, Subject.STATE, "repeal", 1);
        due.leaves(() -> Subject.read(Subject.LAND), Subject.STATE, "repeal", 0);
        due.sentence("two: not the only one");
        due.is(Subject.busy(), 1, "repeal", 0);
    }

    private static void lands() {
        due.sentence("BAD");
        for (int land : new int[] {-1, 2, 3, 4, Subject.MIN, Subject.MAX}) {
            due.bad("repeal", land);
        }
        due.leaves(Subject::new, Subject.BAD, "repeal", 0);
        due.leaves(() -> Subject.read(Subject.LAND), Subject.BAD, "repeal", 1);
        Subject x = Subject.full();
        due.is(x, 3, "repeal", 3);
        due.is(x, Subject.BAD, "repeal", 4);
    }

    private Promise07RepealTest() {
    }
}
