/** Promise 15: inForce. */
final class Promise15InForceTest {
    private static final Due due = new Due("Promise 15");

    public static void main(String[] args) {
        fromItsYearOn();
        years();
        lands();
        due.finish();
    }

    private static void fromItsYearOn() {
        due.sentence("An ACT is IN FORCE in a land from its YEAR on, as long as no later one of that land is");
        Subject x = Subject.read("ly1900,0,0,0,0,0;y1920,0,0,0,0,0;y1921,0,0,0,0,0;y2099,0,0,0,0,0;ly1910,0,0,0,0,0;y1920,0,0,0,0,0;");
        int[] years = {1900, 1901, 1919, 1920, 1921, 1922, 2098, 2099, 2100, 2299};
        int[] acts = {0, 0, 0, 1, 2, 2, 2, 3, 3, 3};
        for (int i = 0; i < years.length; i++) {
            due.is(x, acts[i], "inForce", 0, years[i]);
        }
        due.is(x, 0, "inForce", 1, 1919);
        due.is(x, 1, "inForce", 1, 1920);
        due.sentence("ahead of all, the first one");
        due.is(x, 0, "inForce", 0, 1899);
        due.is(x, 0, "inForce", 0, 1500);
        due.is(x, 0, "inForce", 1, 1500);
        due.sentence("the only one, ahead of it and behind");
        Subject y = Subject.read("ly2099,0,0,0,0,0;");
        due.is(y, 0, "inForce", 0, 1500);
        due.is(y, 0, "inForce", 0, 2299);
        due.sentence("as long as no later one is: one more, one gone");
        y = Subject.read("ly1900,0,0,0,0,0;");
        y.call("enact", 0, 1950, 0, 0);
        due.is(y, 0, "inForce", 0, 1949);
        due.is(y, 1, "inForce", 0, 1950);
        y.call("repeal", 0);
        due.is(y, 0, "inForce", 0, 1950);
        y.call("undo");
        due.is(y, 1, "inForce", 0, 1950);
    }

    private static void years() {
        due.sentence("in a YEAR (1500 to 2299) .. BAD");
        due.leaves(Subject::busy, 0, "inForce", 0, 1500);
        due.leaves(Subject::busy, 1, "inForce", 0, 2299);
        for (int year : new int[] {1499, 2300, 0, -1, 9999, Subject.MIN, Subject.MAX}) {
            due.bad("inForce", 0, year);
        }
    }

    private static void lands() {
        due.sentence("BAD: there is no such land");
        for (int land : new int[] {-1, 2, 4, Subject.MIN, Subject.MAX}) {
            due.bad("inForce", land, 1900);
        }
        due.is(new Subject(), Subject.BAD, "inForce", 0, 1900);
        due.is(Subject.full(), 3, "inForce", 3, 1803);
        due.is(Subject.full(), Subject.BAD, "inForce", 4, 1803);
    }

    private Promise15InForceTest() {
    }
}
