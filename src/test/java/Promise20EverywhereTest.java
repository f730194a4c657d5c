/** Promise 20: everywhere. The years were counted by hand. */
final class Promise20EverywhereTest {
    private static final Due due = new Due("Promise 20");

    public static void main(String[] args) {
        firstAndLast();
        ofSeveralTheLeast();
        earliestAndLatest();
        never();
        noSuch();
        due.finish();
    }

    private static void everywhere(String text, int... want) {
        due.on(text);
        due.row(Subject.read(text), 0, want, "everywhere", 0);
    }

    private static String land(int life, int flags) {
        return "ly1900," + life + ",0,0,0," + flags + ";";
    }

    private static void firstAndLast() {
        due.sentence("0 the land where it is FREE first, 1 that YEAR, 2 the YEAR from when it is FREE in all lands");
        String book = "a1900,1900;b0,1890,0,1;";
        everywhere(land(50, 0) + book, 0, 1951, 1951, 0);
        everywhere(land(50, 0) + land(60, 0) + book, 0, 1951, 1961, 0);
        everywhere(land(60, 0) + land(50, 0) + book, 1, 1951, 1961, 0);
        everywhere(land(60, 0) + land(70, 0) + land(80, 0) + land(50, 0) + book, 3, 1951, 1981, 0);
        everywhere(land(60, 0) + land(50, 0) + land(99, 0) + land(70, 0) + book, 1, 1951, 2000, 0);
        everywhere(land(0, 0) + land(99, 0) + "a1500,1500;b0,1890,0,1;", 0, 1501, 1600, 0);
    }

    private static void ofSeveralTheLeast() {
        due.sentence("(of several the least)");
        String book = "a1900,1900;b0,1890,0,1;";
        everywhere(land(50, 0) + land(50, 0) + book, 0, 1951, 1951, 0);
        everywhere(land(51, 0) + land(50, 0) + land(50, 0) + land(50, 0) + book, 1, 1951, 1952, 0);
        everywhere(land(51, 0) + land(51, 0) + land(50, 0) + land(50, 0) + book, 2, 1951, 1952, 0);
        everywhere(land(50, 0) + land(51, 0) + land(50, 0) + land(49, 0) + book, 3, 1950, 1952, 0);
    }

    private static void earliestAndLatest() {
        due.sentence("first, by EARLIEST; in all lands, by LATEST");
        // Land 0: 1951 to 1971; land 1: 1956 to 1961.
        String two = "a1900,1920;a1915,1915;b0,1890,0,3;";
        everywhere(land(50, 0) + land(40, 1) + two, 0, 1951, 1971, 2);
        everywhere(land(40, 1) + land(50, 0) + two, 1, 1951, 1971, 2);
        due.sentence("3 how many lands in which EARLIEST and LATEST are unlike");
        String some = "a1900,1900;a1890,1920;b0,1890,0,3;";
        everywhere(land(50, 0) + land(50, 0) + some, 0, 1951, 1951, 0);
        everywhere(land(50, 0) + land(50, 1) + some, 0, 1951, 1971, 1);
        everywhere(land(50, 1) + land(50, 0) + land(50, 1) + land(50, 1) + some, 0, 1951, 1971, 3);
        everywhere(land(50, 1) + land(50, 1) + land(50, 1) + land(50, 1) + some, 0, 1951, 1971, 4);
        due.sentence("unlike: by one YEAR");
        everywhere(land(50, 0) + "a1900,1901;b0,1890,0,1;", 0, 1951, 1952, 1);
    }

    private static void never() {
        due.sentence("NEVER in all lands: the least of them");
        everywhere(land(50, 0) + land(60, 0) + "a;b0,1890,0,1;", 0, Subject.NEVER, Subject.NEVER, 0);
        due.sentence("NEVER in some");
        String alive = "a1900,1900;a;b0,1890,0,3;";
        everywhere(land(50, 1) + land(60, 0) + alive, 1, 1961, Subject.NEVER, 0);
        everywhere(land(60, 0) + land(50, 1) + alive, 0, 1961, Subject.NEVER, 0);
        due.sentence("unlike: EARLIEST a YEAR, LATEST NEVER");
        everywhere("ly1900,50,0,0,0,0;y1951,60,0,0,0,1;a1900,1901;a;b0,1890,0,3;", 0, 1951, Subject.NEVER, 1);
    }

    private static void noSuch() {
        due.sentence("Of a WORK: 0 .. 3; BAD");
        for (int what : new int[] {-1, 4, Subject.MIN, Subject.MAX}) {
            due.bad("everywhere", 0, what);
        }
        due.sentence("BAD: there is no such WORK");
        for (int what = 0; what < 4; what++) {
            for (int work : new int[] {-1, 2, 6, Subject.MIN, Subject.MAX}) {
                due.bad("everywhere", work, what);
            }
        }
        Subject x = Subject.full();
        due.row(x, 0, new int[] {0, 1501, 1501, 0, Subject.BAD}, "everywhere", 5);
        due.is(x, Subject.BAD, "everywhere", 6, 0);
        due.is(Subject.read(Subject.LAND), Subject.BAD, "everywhere", 0, 0);
        due.sentence("everywhere changes nothing");
        // Land 0: 1971 to 1981; land 1, which compares: 1951 to 1971.
        due.leaves(Subject::busy, 1, "everywhere", 0, 0);
        due.leaves(Subject::busy, 2, "everywhere", 0, 3);
    }

    private Promise20EverywhereTest() {
    }
}
