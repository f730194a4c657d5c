/** Promise 19: span. The years were counted by hand. */
final class Promise19SpanTest {
    private static final Due due = new Due("Promise 19");

    public static void main(String[] args) {
        oneRow();
        noRow();
        moreRows();
        oneBehindTheOther();
        madeAtAnEdge();
        never();
        forNoDoubt();
        noSuch();
        due.finish();
    }

    /** The first and the last year of all rows of work 0; none is behind them. */
    private static void rows(String text, int land, int... edges) {
        Subject x = Subject.read(text);
        due.on(text);
        for (int i = 0; i < edges.length; i++) {
            due.is(x, edges[i], "span", 0, land, i / 2, i % 2);
        }
        for (int what = 0; what < 2; what++) {
            due.is(x, Subject.NONE, "span", 0, land, edges.length / 2, what);
            due.is(x, Subject.NONE, "span", 0, land, edges.length / 2 + 1, what);
            due.is(x, Subject.NONE, "span", 0, land, Subject.MAX, what);
        }
    }

    /** The book's author died in 1900; an act of 1960. */
    private static void then(int life, int lifeThen, int flagsThen, int made, int... edges) {
        rows("ly1900," + life + ",0,0,0,0;y1960," + lifeThen + ",0,0,0," + flagsThen + ";a1900,1900;b0," + made + ",0,1;",
                0, edges);
    }

    private static void oneRow() {
        due.sentence("row i: its first YEAR (what = 0), its last one (1)");
        rows("ly1900,50,0,0,0,0;a1900,1900;b0,1890,0,1;", 0, 1890, 1950);
        due.sentence("a row of one YEAR");
        rows("ly1900,50,0,0,0,0;a1900,1900;b0,1950,0,1;", 0, 1950, 1950);
        rows("ly1900,0,0,0,0,0;p0,1500,0,0;", 0, 1500, 1500);
        rows("ly1900,0,0,99,0,0;p0,2099,0,0;", 0, 2099, 2198);
        due.sentence("the YEARS ahead of what shortens it stay");
        then(70, 0, 0, 1890, 1890, 1959);
        then(70, 65, 0, 1890, 1890, 1965);
        then(70, 65, 2, 1890, 1890, 1970);
        then(30, 70, 0, 1890, 1890, 1930);
    }

    private static void noRow() {
        due.sentence("NONE: not so many: none, if LAST is less than MADE");
        rows("ly1900,50,0,0,0,0;a1900,1900;b0,1951,0,1;", 0);
        rows("ly1900,50,0,0,0,0;a1900,1900;b0,2099,0,1;", 0);
        then(30, 70, 4, 1971);
    }

    private static void moreRows() {
        due.sentence("Rows of PROTECTED YEARS, rising");
        then(30, 70, 4, 1890, 1890, 1930, 1960, 1970);
        then(58, 70, 4, 1890, 1890, 1958, 1960, 1970);
        then(30, 60, 4, 1890, 1890, 1930, 1960, 1960);
        rows("ly1900,30,0,0,0,0;y1960,70,0,0,0,4;y1980,99,0,0,0,4;a1900,1900;b0,1890,0,1;", 0, 1890, 1930, 1960, 1970, 1980, 1999);
        rows("ly1900,30,0,0,0,0;y1960,70,0,0,0,4;y1965,0,0,0,0,4;y1980,99,0,0,0,4;a1900,1900;b0,1890,0,1;", 0,
                1890, 1930, 1960, 1964, 1980, 1999);
        due.sentence("Rows, at their most");
        rows("ly1905,35,0,0,0,0;y1930,55,0,0,0,0;y1950,75,0,0,0,0;y1970,95,0,0,0,0;"
                + "ly1900,25,0,0,0,12;y1920,45,0,0,0,12;y1940,65,0,0,0,12;y1960,85,0,0,0,12;a1890,1890;b0,1880,0,1;", 1,
                1880, 1915, 1920, 1925, 1930, 1935, 1940, 1945, 1950, 1955, 1960, 1965, 1970, 1975);
    }

    private static void oneBehindTheOther() {
        due.sentence("(YEARS one behind the other are one row)");
        then(59, 70, 4, 1890, 1890, 1970);
        then(59, 60, 4, 1890, 1890, 1960);
        then(59, 70, 4, 1960, 1960, 1970);
        due.sentence("one row, then another one");
        rows("ly1900,59,0,0,0,0;y1960,70,0,0,0,4;y1980,99,0,0,0,4;a1900,1900;b0,1890,0,1;", 0, 1890, 1970, 1980, 1999);
        rows("ly1900,30,0,0,0,0;y1960,79,0,0,0,4;y1980,99,0,0,0,4;a1900,1900;b0,1890,0,1;", 0, 1890, 1930, 1960, 1999);
        rows("ly1900,59,0,0,0,0;y1960,79,0,0,0,4;y1980,99,0,0,0,4;a1900,1900;b0,1890,0,1;", 0, 1890, 1999);
        due.sentence("what was made shorter to the YEAR less 1 and comes back in that YEAR's next one");
        rows("ly1900,70,0,0,0,0;y1960,0,0,0,0,0;y1961,99,0,0,0,4;a1900,1900;b0,1890,0,1;", 0, 1890, 1959, 1961, 1999);
    }

    private static void madeAtAnEdge() {
        due.sentence("PROTECTED are all YEARS from MADE");
        then(30, 70, 4, 1929, 1929, 1930, 1960, 1970);
        then(30, 70, 4, 1930, 1930, 1930, 1960, 1970);
        then(30, 70, 4, 1931, 1960, 1970);
        then(30, 70, 4, 1959, 1960, 1970);
        then(30, 70, 4, 1960, 1960, 1970);
        then(30, 70, 4, 1961, 1961, 1970);
        then(30, 70, 4, 1970, 1970, 1970);
        then(30, 70, 4, 1971);
        String three = "ly1900,30,0,0,0,0;y1960,70,0,0,0,4;y1980,99,0,0,0,4;a1900,1900;b0,";
        rows(three + "1970,0,1;", 0, 1970, 1970, 1980, 1999);
        rows(three + "1971,0,1;", 0, 1980, 1999);
        rows(three + "1999,0,1;", 0, 1999, 1999);
        rows(three + "2000,0,1;", 0);
    }

    private static void never() {
        due.sentence("its last one (1; NEVER)");
        rows("ly1900,50,0,0,0,0;a;b0,1890,0,1;", 0, 1890, Subject.NEVER);
        rows("ly1900,50,0,0,0,0;a;b0,2099,0,1;", 0, 2099, Subject.NEVER);
        String alive = "a1900,1900;a;b0,1890,0,3;";
        rows("ly1900,50,0,0,0,0;y1960,60,0,0,0,5;" + alive, 0, 1890, 1950, 1960, Subject.NEVER);
        rows("ly1900,59,0,0,0,0;y1960,60,0,0,0,5;" + alive, 0, 1890, Subject.NEVER);
        rows("ly1900,50,0,0,0,1;y1960,60,0,0,0,0;" + alive, 0, 1890, 1960);
    }

    private static void forNoDoubt() {
        due.sentence("for k = 0");
        rows("ly1900,30,0,0,0,0;y1960,70,0,0,0,4;a1900,1940;b0,1890,0,1;", 0, 1890, 1930, 1960, 1970);
        rows("ly1900,50,0,0,20,0;a1900,1920;b0,1890,1960,1;", 0, 1890, 1980);
    }

    private static void noSuch() {
        due.sentence("BAD (i below 0, too)");
        due.bad("span", 0, 0, -1, 0);
        due.bad("span", 0, 0, -1, 1);
        due.bad("span", 0, 0, Subject.MIN, 0);
        due.sentence("what = 0, 1; BAD");
        for (int what : new int[] {-1, 2, Subject.MIN, Subject.MAX}) {
            due.bad("span", 0, 0, 0, what);
            due.bad("span", 0, 0, 9, what);
        }
        due.sentence("BAD: there is no such WORK, land");
        for (int out : new int[] {-1, 2, 8, Subject.MIN, Subject.MAX}) {
            due.bad("span", out, 0, 0, 0);
            due.bad("span", 0, out, 0, 0);
        }
        Subject x = Subject.full();
        due.is(x, 1500, "span", 5, 3, 0, 1);
        due.is(x, Subject.BAD, "span", 6, 3, 0, 1);
        due.is(x, Subject.BAD, "span", 5, 4, 0, 1);
        due.is(new Subject(), Subject.BAD, "span", 0, 0, 0, 0);
        due.sentence("span changes nothing");
        due.leaves(Subject::busy, 1960, "span", 0, 0, 1, 0);
        due.leaves(Subject::busy, Subject.NONE, "span", 0, 0, 2, 0);
    }

    private Promise19SpanTest() {
    }
}
