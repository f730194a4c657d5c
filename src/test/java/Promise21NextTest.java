/** Promise 21: next. The years were counted by hand. */
final class Promise21NextTest {
    private static final Due due = new Due("Promise 21");

    public static void main(String[] args) {
        byYearThenLandThenWork();
        fromAYearOn();
        byEarliest();
        never();
        atTheirMost();
        bad();
        noRights();
        due.finish();
    }

    /** Land 0: the book in 1971, the pictures in 1901; land 1: the book in 1951, the pictures in 1952; the song NEVER. */
    private static Subject some() {
        return Subject.read("ly1900,70,0,10,0,0;ly1900,50,0,61,0,0;a1900,1900;a;b0,1890,0,1;p0,1890,0,0;s0,1890,0,2;p0,1890,0,0;");
    }

    private static void all(Subject x, int from, int[] years, int[] which) {
        for (int i = 0; i < years.length; i++) {
            due.is(x, years[i], "next", from, i, 0);
            due.is(x, which[i], "next", from, i, 1);
        }
        for (int what = 0; what < 2; what++) {
            due.is(x, Subject.NONE, "next", from, years.length, what);
            due.is(x, Subject.NONE, "next", from, years.length + 1, what);
            due.is(x, Subject.NONE, "next", from, Subject.MAX, what);
        }
    }

    private static void byYearThenLandThenWork() {
        due.sentence("by YEAR, then land, then WORK: number i (0 on): the YEAR (what = 0), 10 times the land, and the WORK (1)");
        all(some(), 1500, new int[] {1901, 1901, 1951, 1952, 1952, 1971}, new int[] {1, 3, 10, 11, 13, 0});
        Subject x = some();
        x.call("alter", 0, 0, 1, 51);
        x.call("alter", 1, 0, 1, 51);
        x.call("alter", 0, 0, 3, 61);
        all(x, 1500, new int[] {1952, 1952, 1952, 1952, 1952, 1952}, new int[] {0, 1, 3, 10, 11, 13});
        due.sentence("NONE: not so many: one, none");
        all(Subject.read("ly1900,0,0,9,0,0;p0,1890,0,0;"), 1500, new int[] {1900}, new int[] {0});
        all(Subject.read(Subject.LAND), 1500, new int[] {}, new int[] {});
    }

    private static void fromAYearOn() {
        due.sentence("in a YEAR or later");
        Subject x = some();
        all(x, 1901, new int[] {1901, 1901, 1951, 1952, 1952, 1971}, new int[] {1, 3, 10, 11, 13, 0});
        all(x, 1902, new int[] {1951, 1952, 1952, 1971}, new int[] {10, 11, 13, 0});
        all(x, 1952, new int[] {1952, 1952, 1971}, new int[] {11, 13, 0});
        all(x, 1953, new int[] {1971}, new int[] {0});
        all(x, 1971, new int[] {1971}, new int[] {0});
        all(x, 1972, new int[] {}, new int[] {});
        due.sentence("the earliest YEAR, the latest YEAR that there can be");
        all(Subject.read("ly1700,0,0,0,0,0;p0,1500,0,0;"), 1500, new int[] {1501}, new int[] {0});
        all(Subject.read("ly1700,0,0,99,0,0;p0,2099,0,0;"), 2199, new int[] {2199}, new int[] {0});
        all(Subject.read("ly1700,0,0,99,0,0;p0,2099,0,0;"), 2200, new int[] {}, new int[] {});
    }

    private static void byEarliest() {
        due.sentence("that become FREE, by EARLIEST");
        Subject x = Subject.read("ly1900,50,0,71,0,0;a1900,1920;b0,1890,0,1;p0,1890,0,0;");
        all(x, 1500, new int[] {1951, 1962}, new int[] {0, 1});
        all(x, 1952, new int[] {1962}, new int[] {1});
    }

    private static void never() {
        due.sentence("(not NEVER)");
        all(Subject.read("ly1900,50,0,0,0,0;a;b0,1890,0,1;s0,1890,0,1;"), 1500, new int[] {}, new int[] {});
        all(Subject.read("ly1900,50,0,0,0,1;ly1900,50,0,0,0,0;a1900,1900;a;b0,1890,0,3;s0,1890,0,3;"), 1500, new int[] {1951}, new int[] {10});
        due.is(Subject.read("ly1900,50,0,0,0,0;a;b0,1890,0,1;"), Subject.NONE, "next", 2299, 0, 0);
    }

    private static void atTheirMost() {
        due.sentence("Of all that become FREE: 4 lands, 6 WORKS");
        Subject x = Subject.full();
        int[] years = new int[24];
        int[] which = new int[24];
        for (int i = 0; i < 24; i++) {
            years[i] = 1501;
            which[i] = 10 * (i / 6) + i % 6;
        }
        all(x, 1501, years, which);
        due.is(x, Subject.NONE, "next", 1502, 0, 0);
        due.sentence("Of all that become FREE: of those there are");
        x.feed("ly1700,0,0,10,0,0;p0,1890,0,0;").call("rights");
        all(x, 1500, new int[] {1901}, new int[] {0});
    }

    private static void bad() {
        due.sentence("BAD (a YEAR not 1500 to 2299)");
        due.leaves(Subject::busy, 10, "next", 1500, 0, 1);
        due.leaves(Subject::busy, Subject.NONE, "next", 2299, 0, 1);
        for (int year : new int[] {1499, 2300, 0, -1, 9999, Subject.MIN, Subject.MAX}) {
            due.bad("next", year, 0, 0);
        }
        due.sentence("BAD (i below 0, too)");
        for (int i : new int[] {-1, Subject.MIN}) {
            due.bad("next", 1900, i, 0);
            due.bad("next", 1900, i, 1);
        }
        due.sentence("what = 0, 1; BAD");
        for (int what : new int[] {-1, 2, Subject.MIN, Subject.MAX}) {
            due.bad("next", 1900, 0, what);
            due.bad("next", 1900, 99, what);
        }
    }

    private static void noRights() {
        due.sentence("STATE: no RIGHTS (ahead of BAD)");
        due.leaves(Subject::new, Subject.STATE, "next", 1900, 0, 0);
        due.leaves(Subject::new, Subject.STATE, "next", 1499, 0, 0);
        due.leaves(Subject::new, Subject.STATE, "next", 2300, 0, 0);
        due.leaves(Subject::new, Subject.STATE, "next", 1900, -1, 0);
        due.leaves(Subject::new, Subject.STATE, "next", 1900, 0, 2);
        due.leaves(Subject::new, Subject.STATE, "next", 1900, 0, -1);
        due.sentence("no RIGHTS: behind a FAULT, too");
        Subject x = new Subject().feed("ly1700,0,0,0,0,0;p0,1900,0,1;");
        due.is(x, Subject.FAULT - 27, "rights");
        due.is(x, Subject.STATE, "next", 1900, 0, 0);
        due.sentence("RIGHTS without a WORK: NONE, BAD");
        due.leaves(() -> Subject.read(Subject.LAND), Subject.NONE, "next", 1900, 0, 0);
        due.leaves(() -> Subject.read(Subject.LAND), Subject.BAD, "next", 1499, 0, 0);
    }

    private Promise21NextTest() {
    }
}
