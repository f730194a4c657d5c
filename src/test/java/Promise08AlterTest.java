/** Promise 8: alter. */
final class Promise08AlterTest {
    private static final Due due = new Due("Promise 8");
    private static final int[] MOST = {0, 99, 99, 99, 50, 15};

    public static void main(String[] args) {
        whatItWas();
        values();
        which();
        landsAndActs();
        due.finish();
    }

    private static void whatItWas() {
        due.sentence("LIFE (1), PUBLIC (2), PICTURES (3), LATE (4), FLAGS (5) of an ACT is v: what it was");
        Subject x = Subject.busy();
        int[] was = {1900, 50, 60, 25, 10, 0};
        for (int which = 1; which <= 5; which++) {
            due.is(x, was[which], "alter", 0, 0, which, 10 + which);
            due.is(x, 10 + which, "act", 0, 0, which);
            due.is(x, 10 + which, "alter", 0, 0, which, 10 + which);
        }
        due.row(x, 0, new int[] {1900, 11, 12, 13, 14, 15}, "act", 0, 0);
        due.row(x, 0, new int[] {1960, 70, 72, 50, 20, 6}, "act", 0, 1);
        due.row(x, 0, new int[] {1920, 60, 50, 30, 5, 9}, "act", 1, 0);
        due.is(x, 12, "count", 4);
        Subject y = Subject.full();
        due.is(y, 0, "alter", 3, 3, 5, 15);
        due.row(y, 0, new int[] {1803, 0, 0, 0, 0, 15}, "act", 3, 3);
        due.row(y, 0, new int[] {1802, 0, 0, 0, 0, 0}, "act", 3, 2);
    }

    private static void values() {
        due.sentence("v, as told: 0 to 99; 0 to 99; 0 to 99; 0 to 50; 0 to 15");
        int[] was = {1920, 60, 50, 30, 5, 9};
        for (int which = 1; which <= 5; which++) {
            for (int v : new int[] {0, 1, MOST[which] - 1, MOST[which]}) {
                Subject x = Subject.busy();
                due.is(x, was[which], "alter", 1, 0, which, v);
                due.is(x, v, "act", 1, 0, which);
                due.is(x, 3, "count", 4);
            }
            for (int v : new int[] {-1, MOST[which] + 1, Subject.MIN, Subject.MAX}) {
                due.bad("alter", 1, 0, which, v);
            }
        }
    }

    private static void which() {
        due.sentence("which = 1 to 5 .. BAD");
        for (int which : new int[] {0, -1, 6, 7, Subject.MIN, Subject.MAX}) {
            due.bad("alter", 0, 0, which, 5);
        }
        due.bad("alter", 0, 0, 0, 1901);
        due.bad("alter", 0, 1, 0, 1961);
    }

    private static void landsAndActs() {
        due.sentence("BAD: there is no such land, ACT");
        for (int land : new int[] {-1, 2, 4, Subject.MIN, Subject.MAX}) {
            due.bad("alter", land, 0, 1, 1);
        }
        for (int act : new int[] {-1, 2, 4, Subject.MIN, Subject.MAX}) {
            due.bad("alter", 0, act, 1, 1);
        }
        due.bad("alter", 1, 1, 1, 1);
        due.is(Subject.busy(), 70, "alter", 0, 1, 1, 1);
        due.leaves(Subject::new, Subject.BAD, "alter", 0, 0, 1, 1);
        Subject x = Subject.full();
        due.is(x, Subject.BAD, "alter", 4, 0, 1, 1);
        due.is(x, Subject.BAD, "alter", 3, 4, 1, 1);
        due.sentence("BAD: an ACT that is gone");
        Subject y = Subject.busy();
        y.call("repeal", 0);
        due.is(y, Subject.BAD, "alter", 0, 1, 1, 1);
    }

    private Promise08AlterTest() {
    }
}
