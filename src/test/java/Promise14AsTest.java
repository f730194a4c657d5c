/** Promise 14: as, and the KINDS of "Terms", part 2. */
final class Promise14AsTest {
    private static final Due due = new Due("Promise 14");
    /** Row by work (b, s, p, f, n), column by kind: WORK, BOOK, SONG, PICTURE, FILM, NAMELESS. */
    private static final String[] IS = {"110000", "111000", "100100", "100010", "100001"};

    public static void main(String[] args) {
        kinds();
        noSuch();
        due.finish();
    }

    private static void kinds() {
        due.sentence("0 WORK; 1 BOOK, a WORK; 2 SONG, a BOOK; 3 PICTURE, a WORK; 4 FILM, a WORK; 5 NAMELESS, a WORK");
        Subject x = Subject.read(Subject.LAND + "a;b0,1900,0,1;s0,1900,0,1;p0,1900,0,1;f0,1900,0,1;n0,1900,0,1;s0,1900,0,1;");
        for (int work = 0; work < 5; work++) {
            for (int kind = 0; kind < 6; kind++) {
                due.is(x, IS[work].charAt(kind) == '1' ? work : Subject.NONE, "as", work, kind);
            }
        }
        due.sentence("the WORK's number; NONE: it is not of that");
        due.row(x, 0, new int[] {5, 5, 5, Subject.NONE, Subject.NONE, Subject.NONE}, "as", 5);
        due.leaves(Subject::busy, 1, "as", 1, 3);
        due.leaves(Subject::busy, Subject.NONE, "as", 1, 1);
        due.sentence("a BOOK is no SONG");
        due.leaves(Subject::busy, Subject.NONE, "as", 0, 2);
    }

    private static void noSuch() {
        due.sentence("a KIND (0 to 5) .. BAD");
        for (int work = 0; work < 2; work++) {
            for (int kind : new int[] {-1, 6, Subject.MIN, Subject.MAX}) {
                due.bad("as", work, kind);
            }
        }
        due.sentence("BAD: there is no such WORK");
        for (int work : new int[] {-1, 2, 6, Subject.MIN, Subject.MAX}) {
            due.bad("as", work, 0);
            due.bad("as", work, 5);
        }
        due.is(Subject.full(), 5, "as", 5, 3);
        due.is(Subject.full(), Subject.BAD, "as", 6, 3);
        due.is(Subject.read(Subject.LAND), Subject.BAD, "as", 0, 0);
    }

    private Promise14AsTest() {
    }
}
