/** Promise 6: enact. */
final class Promise06EnactTest {
    private static final Due due = new Due("Promise 6");
    private static final int[] NO_LANDS = {-1, 2, 4, Subject.MIN, Subject.MAX};

    public static void main(String[] args) {
        anActMore();
        years();
        lifeAndFlags();
        lands();
        four();
        badAheadOfFull();
        due.finish();
    }

    private static void anActMore() {
        due.sentence("An ACT more behind those of a land: its number");
        Subject x = Subject.busy();
        due.is(x, 2, "enact", 0, 1990, 80, 3);
        due.is(x, 3, "enact", 0, 1999, 81, 4);
        due.is(x, 1, "enact", 1, 1990, 82, 5);
        due.is(x, 6, "count", 1);
        due.is(x, 5, "count", 4);
        due.sentence("PUBLIC, PICTURES, LATE as the one ahead has them");
        due.row(x, 0, new int[] {1990, 80, 72, 50, 20, 3}, "act", 0, 2);
        due.row(x, 0, new int[] {1999, 81, 72, 50, 20, 4}, "act", 0, 3);
        due.row(x, 0, new int[] {1990, 82, 50, 30, 5, 5}, "act", 1, 1);
        due.row(x, 0, new int[] {1960, 70, 72, 50, 20, 6}, "act", 0, 1);
        due.sentence("as the one ahead has them: as that one has them now, and they are the new one's own");
        Subject y = Subject.read("ly1900,50,60,25,10,0;");
        y.call("alter", 0, 0, 3, 99);
        due.is(y, 1, "enact", 0, 1901, 0, 0);
        due.is(y, 25 + 74, "alter", 0, 0, 3, 1);
        due.row(y, 0, new int[] {1901, 0, 60, 99, 10, 0}, "act", 0, 1);
        due.is(y, 1, "act", 0, 0, 3);
    }

    private static Subject lastOf(int year) {
        return Subject.read("ly1700,1,2,3,4,5;" + (year > 1700 ? "y" + year + ",6,7,8,9,10;" : ""));
    }

    private static void years() {
        due.sentence("of a YEAR (to 2099)");
        due.is(Subject.busy(), 2, "enact", 0, 2099, 0, 0);
        due.is(Subject.busy(), 2, "enact", 0, 2098, 0, 0);
        for (int year : new int[] {2100, 2101, 2299, 9999, Subject.MAX}) {
            due.bad("enact", 0, year, 0, 0);
        }
        due.sentence("BAD (a YEAR that is not later than that)");
        due.is(Subject.busy(), 2, "enact", 0, 1961, 0, 0);
        for (int year : new int[] {1960, 1959, 1901, 1900, 1899, 1700, 0, -1, Subject.MIN}) {
            due.bad("enact", 0, year, 0, 0);
        }
        due.is(Subject.busy(), 1, "enact", 1, 1921, 0, 0);
        due.bad("enact", 1, 1920, 0, 0);
        due.is(lastOf(1700), 1, "enact", 0, 1701, 0, 0);
        due.leaves(() -> lastOf(1700), Subject.BAD, "enact", 0, 1700, 0, 0);
        due.leaves(() -> lastOf(1700), Subject.BAD, "enact", 0, 1699, 0, 0);
        due.is(lastOf(2098), 2, "enact", 0, 2099, 0, 0);
        due.leaves(() -> lastOf(2099), Subject.BAD, "enact", 0, 2099, 0, 0);
        due.leaves(() -> lastOf(2099), Subject.BAD, "enact", 0, 2100, 0, 0);
        due.sentence("later than that: of the last ACT there is, behind repeal and undo");
        Subject x = lastOf(1800);
        due.is(x, 1, "repeal", 0);
        due.is(x, 1, "enact", 0, 1701, 0, 0);
        due.is(x, 1, "undo");
        due.is(x, 0, "undo");
        due.is(x, Subject.BAD, "enact", 0, 1800, 0, 0);
        due.is(x, 2, "enact", 0, 1801, 0, 0);
    }

    private static void lifeAndFlags() {
        due.sentence("with LIFE (0 to 99)");
        for (int life : new int[] {0, 1, 98, 99}) {
            Subject x = Subject.busy();
            due.is(x, 2, "enact", 0, 2000, life, 7);
            due.is(x, life, "act", 0, 2, 1);
        }
        for (int life : new int[] {-1, 100, Subject.MIN, Subject.MAX}) {
            due.bad("enact", 0, 2000, life, 0);
        }
        due.sentence("with FLAGS (0 to 15)");
        for (int flags : new int[] {0, 1, 2, 4, 8, 14, 15}) {
            Subject x = Subject.busy();
            due.is(x, 2, "enact", 0, 2000, 7, flags);
            due.is(x, flags, "act", 0, 2, 5);
        }
        for (int flags : new int[] {-1, 16, Subject.MIN, Subject.MAX}) {
            due.bad("enact", 0, 2000, 0, flags);
        }
    }

    private static void lands() {
        due.sentence("BAD (no such land, too)");
        for (int land : NO_LANDS) {
            due.bad("enact", land, 2000, 0, 0);
        }
        due.leaves(Subject::new, Subject.BAD, "enact", 0, 2000, 0, 0);
        Subject x = Subject.full();
        due.is(x, Subject.BAD, "enact", 4, 2000, 0, 0);
    }

    private static Subject fourActs() {
        return Subject.read("ly1900,0,0,0,0,0;y1901,0,0,0,0,0;y1902,0,0,0,0,0;y1903,0,0,0,0,0;ly1900,0,0,0,0,0;");
    }

    private static void four() {
        due.sentence("FULL: 4");
        due.leaves(Promise06EnactTest::fourActs, Subject.FULL, "enact", 0, 1904, 0, 0);
        due.leaves(Promise06EnactTest::fourActs, Subject.FULL, "enact", 0, 2099, 99, 15);
        Subject x = fourActs();
        due.is(x, 1, "enact", 1, 1901, 0, 0);
        due.is(x, 2, "enact", 1, 1902, 0, 0);
        due.is(x, 3, "enact", 1, 1903, 0, 0);
        due.is(x, Subject.FULL, "enact", 1, 1904, 0, 0);
        due.is(x, 8, "count", 1);
        due.is(x, 3, "count", 4);
        due.is(x, 3, "repeal", 0);
        due.is(x, 3, "enact", 0, 1904, 0, 0);
        due.is(x, Subject.FULL, "enact", 0, 1905, 0, 0);
        due.is(x, 4, "undo");
        due.is(x, 3, "enact", 0, 1905, 0, 0);
        for (int land = 0; land < 4; land++) {
            due.is(Subject.full(), Subject.FULL, "enact", land, 1804, 0, 0);
        }
    }

    private static void badAheadOfFull() {
        due.sentence("the first of these that fits: BAD, FULL");
        due.leaves(Promise06EnactTest::fourActs, Subject.BAD, "enact", 0, 1903, 0, 0);
        due.leaves(Promise06EnactTest::fourActs, Subject.BAD, "enact", 0, 2100, 0, 0);
        due.leaves(Promise06EnactTest::fourActs, Subject.BAD, "enact", 0, 1904, 100, 0);
        due.leaves(Promise06EnactTest::fourActs, Subject.BAD, "enact", 0, 1904, -1, 0);
        due.leaves(Promise06EnactTest::fourActs, Subject.BAD, "enact", 0, 1904, 0, 16);
        due.leaves(Promise06EnactTest::fourActs, Subject.BAD, "enact", 0, 1904, 0, -1);
        due.leaves(Promise06EnactTest::fourActs, Subject.BAD, "enact", 2, 1904, 0, 0);
    }

    private Promise06EnactTest() {
    }
}
