/** Promise 10: change. */
final class Promise10ChangeTest {
    private static final Due due = new Due("Promise 10");
    /** 3 lands, 3 authors, a work of each kind: made in 1900, published in 1950, by the first author. */
    private static final String KINDS = "ly1900,0,0,0,0,0;ly1900,0,0,0,0,0;ly1900,0,0,0,0,0;a;a;a;"
            + "b0,1900,1950,1;s0,1900,1950,1;p0,1900,1950,1;f0,1900,1950,1;n0,1900,1950,1;";

    public static void main(String[] args) {
        origins();
        made();
        published();
        notPublished();
        sets();
        mustHaveSome();
        which();
        works();
        due.finish();
    }

    /** A change of one number, which leaves the others. */
    private static void becomes(int work, int which, int v, int was) {
        Subject x = Subject.read(KINDS);
        int[] numbers = {work + 1, 0, 1900, 1950, 1};
        due.same("what it is due to have been", numbers[which], was);
        due.is(x, was, "change", work, which, v);
        numbers[which] = v;
        due.row(x, 0, numbers, "work", work);
        due.is(x, 1, "count", 4);
    }

    private static void refuses(int work, int which, int v) {
        due.leaves(() -> Subject.read(KINDS), Subject.BAD, "change", work, which, v);
    }

    private static void origins() {
        due.sentence("ORIGIN (which = 1) is v, as told: a land that was told");
        for (int work = 0; work < 5; work++) {
            for (int land = 0; land < 3; land++) {
                becomes(work, 1, land, 0);
            }
            refuses(work, 1, 3);
            refuses(work, 1, -1);
        }
        for (int land : new int[] {4, Subject.MIN, Subject.MAX}) {
            refuses(0, 1, land);
        }
        due.is(Subject.full(), 0, "change", 5, 1, 3);
        due.is(Subject.full(), Subject.BAD, "change", 5, 1, 4);
    }

    private static void made() {
        due.sentence("MADE (2) is v, as told: 1500 to 2099; BAD (MADE more than PUBLISHED, too)");
        for (int work = 0; work < 5; work++) {
            becomes(work, 2, 1500, 1900);
            becomes(work, 2, 1900, 1900);
            becomes(work, 2, 1949, 1900);
            becomes(work, 2, 1950, 1900);
            refuses(work, 2, 1951);
            refuses(work, 2, 1499);
        }
        for (int v : new int[] {0, -1, 2099, 2100, Subject.MIN, Subject.MAX}) {
            refuses(0, 2, v);
        }
        due.sentence("MADE 2099, PUBLISHED then, too");
        Subject x = Subject.read(KINDS);
        due.is(x, 1950, "change", 0, 3, 2099);
        due.is(x, 1900, "change", 0, 2, 2099);
        due.is(x, Subject.BAD, "change", 0, 2, 2100);
        due.is(x, 2099, "work", 0, 2);
    }

    private static void published() {
        due.sentence("PUBLISHED (3) is v, as told: 0, or a year to 2099; BAD (PUBLISHED less than MADE, too)");
        for (int work = 0; work < 5; work++) {
            becomes(work, 3, 0, 1950);
            becomes(work, 3, 1900, 1950);
            becomes(work, 3, 1901, 1950);
            becomes(work, 3, 2099, 1950);
            refuses(work, 3, 1899);
            refuses(work, 3, 2100);
            refuses(work, 3, 1);
            refuses(work, 3, -1);
        }
        for (int v : new int[] {1499, 1500, 9999, Subject.MIN, Subject.MAX}) {
            refuses(0, 3, v);
        }
    }

    private static Subject unpublished() {
        return Subject.read(Subject.LAND + "p0,1900,0,0;");
    }

    private static void notPublished() {
        due.sentence("PUBLISHED 0: not published; MADE may be any year then");
        Subject x = unpublished();
        due.is(x, 1900, "change", 0, 2, 2099);
        due.is(x, 2099, "change", 0, 2, 1500);
        due.is(x, 1500, "change", 0, 2, 1900);
        due.leaves(Promise10ChangeTest::unpublished, Subject.BAD, "change", 0, 2, 1499);
        due.leaves(Promise10ChangeTest::unpublished, Subject.BAD, "change", 0, 2, 2100);
        due.leaves(Promise10ChangeTest::unpublished, Subject.BAD, "change", 0, 2, 0);
        due.is(x, 0, "change", 0, 3, 1900);
        due.is(x, Subject.BAD, "change", 0, 2, 1901);
        due.is(x, 1900, "change", 0, 3, 0);
        due.is(x, 1900, "change", 0, 2, 1901);
        due.is(x, Subject.BAD, "change", 0, 3, 1900);
        due.is(x, 0, "change", 0, 3, 1901);
    }

    private static void sets() {
        due.sentence("AUTHORS (4) is v, as told: a set of authors that were told");
        for (int work = 0; work < 5; work++) {
            for (int set = 1; set <= 7; set++) {
                becomes(work, 4, set, 1);
            }
            refuses(work, 4, 8);
            refuses(work, 4, 9);
            refuses(work, 4, -1);
        }
        for (int set : new int[] {16, 255, 256, Subject.MIN, Subject.MAX}) {
            refuses(2, 4, set);
        }
        due.sentence("0 to 255");
        Subject x = Subject.full();
        due.is(x, 0, "change", 0, 4, 255);
        due.is(x, 255, "change", 0, 4, 128);
        due.is(x, Subject.BAD, "change", 0, 4, 256);
        due.is(x, 128, "work", 0, 4);
        due.sentence("a set of authors that were told: none was");
        due.is(unpublished(), 0, "change", 0, 4, 0);
        due.leaves(Promise10ChangeTest::unpublished, Subject.BAD, "change", 0, 4, 1);
    }

    private static void mustHaveSome() {
        due.sentence("BAD (AUTHORS 0 of a WORK that must have some, too)");
        refuses(0, 4, 0);
        refuses(1, 4, 0);
        refuses(3, 4, 0);
        due.sentence("not 0 but for p, n");
        becomes(2, 4, 0, 1);
        becomes(4, 4, 0, 1);
    }

    private static void which() {
        due.sentence("which = 1 to 4 .. BAD");
        for (int which : new int[] {0, -1, 5, 6, Subject.MIN, Subject.MAX}) {
            refuses(0, which, 1);
            due.bad("change", 0, which, 1);
        }
        refuses(0, 0, 2);
    }

    private static void works() {
        due.sentence("BAD: there is no such WORK");
        for (int work : new int[] {-1, 2, 6, Subject.MIN, Subject.MAX}) {
            due.bad("change", work, 1, 0);
            due.bad("change", work, 2, 1900);
            due.bad("change", work, 3, 0);
            due.bad("change", work, 4, 1);
        }
        due.leaves(Subject::new, Subject.BAD, "change", 0, 1, 0);
        Subject x = Subject.full();
        due.is(x, 1500, "change", 5, 2, 1501);
        due.is(x, 1500, "work", 4, 2);
        due.is(x, 1501, "work", 5, 2);
        due.is(x, Subject.BAD, "change", 6, 2, 1501);
        due.sentence("as it was: a DEED all the same");
        due.is(x, 12, "count", 4);
        Subject y = Subject.busy();
        due.is(y, 1880, "change", 0, 2, 1880);
        due.is(y, 3, "count", 4);
    }

    private Promise10ChangeTest() {
    }
}
