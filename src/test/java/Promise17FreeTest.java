/** Promise 17: free, with TERM IN, CHAIN and FREE of "Terms", part 2. The years were counted by hand. */
final class Promise17FreeTest {
    private static final Due due = new Due("Promise 17");
    private static final int NONE = Subject.NONE;

    public static void main(String[] args) {
        oneAct();
        lastIsThatYearOrMore();
        keeps();
        lastIsLess();
        theActInForce();
        events();
        eventsOfOrigin();
        comparing();
        atEventsOfOrigin();
        atTheirMost();
        earliestAndLatest();
        forNoDoubt();
        never();
        noSuch();
        due.finish();
    }

    /** EARLIEST, LATEST, how many times it CAME BACK, how many EVENTS, in what YEAR LAST last became another. */
    private static void free(Subject x, int land, int... want) {
        due.row(x, 0, want, "free", 0, land);
    }

    /** Asked one behind the other, and each of an object that was asked nothing else. */
    private static void free(String text, int land, int... want) {
        due.on(text);
        free(Subject.read(text), land, want);
        for (int what = 0; what < want.length; what++) {
            due.is(Subject.read(text), want[what], "free", 0, land, what);
        }
    }

    /** The book's author died in 1900, the second act is of 1960; the first one has all FLAGS, for the second alone counts. */
    private static void then(int life, int lifeThen, int flagsThen, int free, int back, int changed) {
        free("ly1900," + life + ",0,0,0,15;y1960," + lifeThen + ",0,0,0," + flagsThen + ";a1900,1900;b0,1890,0,1;", 0,
                free, free, back, 1, changed);
    }

    private static void oneAct() {
        due.sentence("CHAIN begins with the YEAR of the land's first ACT, LAST being TERM IN that YEAR; FREE: LAST of the end, and 1");
        free("ly1900,50,0,0,0,0;a1900,1900;b0,1890,0,1;", 0, 1951, 1951, 0, 0, NONE);
        free("ly2099,50,0,0,0,15;a1900,1900;b0,1890,0,1;", 0, 1951, 1951, 0, 0, NONE);
        free("ly1900,0,0,0,0,0;a1500,1500;b0,2099,0,1;", 0, 1501, 1501, 0, 0, NONE);
        free("ly1900,99,0,0,0,0;a2099,2099;b0,2099,0,1;", 0, 2199, 2199, 0, 0, NONE);
        free("ly1900,0,0,25,0,0;p0,1890,0,0;", 0, 1916, 1916, 0, 0, NONE);
    }

    private static void lastIsThatYearOrMore() {
        due.sentence("If LAST is that YEAR or more: LAST becomes next");
        then(61, 70, 0, 1971, 0, 1960);
        then(60, 70, 0, 1971, 0, 1960);
        then(60, 60, 0, 1961, 0, NONE);
        then(70, 61, 0, 1962, 0, 1960);
        then(70, 60, 0, 1961, 0, 1960);
        then(99, 98, 0, 1999, 0, 1960);
        due.sentence("where that is less than the YEAR less 1, LAST becomes the YEAR less 1 instead");
        then(70, 59, 0, 1960, 0, 1960);
        then(70, 58, 0, 1960, 0, 1960);
        then(70, 0, 0, 1960, 0, 1960);
        then(60, 0, 0, 1960, 0, 1960);
        due.sentence("LAST is that YEAR or more: REVIVES is nothing to it");
        then(60, 59, 4, 1960, 0, 1960);
        then(70, 58, 4, 1960, 0, 1960);
        then(60, 80, 4, 1981, 0, 1960);
        due.sentence("LAST, which became the YEAR less 1, is less at the next EVENT");
        String acts = "ly1900,70,0,0,0,0;y1960,0,0,0,0,0;y1961,99,0,0,0,";
        free(acts + "0;a1900,1900;b0,1890,0,1;", 0, 1960, 1960, 0, 2, 1960);
        free(acts + "4;a1900,1900;b0,1890,0,1;", 0, 2000, 2000, 1, 2, 1961);
    }

    private static void keeps() {
        due.sentence("or, if the land's ACT IN FORCE in that YEAR KEEPS, the greater of LAST and next");
        then(70, 50, 2, 1971, 0, NONE);
        then(70, 69, 2, 1971, 0, NONE);
        then(70, 70, 2, 1971, 0, NONE);
        then(70, 71, 2, 1972, 0, 1960);
        then(60, 0, 2, 1961, 0, NONE);
        then(60, 61, 2, 1962, 0, 1960);
        due.sentence("LAST is less: KEEPS is nothing to it");
        then(59, 80, 2, 1960, 0, NONE);
        due.sentence("FLAGS (bits): 0 JOINT, 1 KEEPS, 2 REVIVES, 3 COMPARES: the others do not keep");
        then(70, 50, 1, 1960, 0, 1960);
        then(70, 50, 4, 1960, 0, 1960);
        then(70, 50, 8, 1960, 0, 1960);
        then(70, 50, 13, 1960, 0, 1960);
        then(70, 50, 15, 1971, 0, NONE);
    }

    private static void lastIsLess() {
        due.sentence("If LAST is less: if that ACT REVIVES, and next is that YEAR or more, it COMES BACK: LAST becomes next");
        then(59, 60, 4, 1961, 1, 1960);
        then(59, 61, 4, 1962, 1, 1960);
        then(30, 60, 4, 1961, 1, 1960);
        then(30, 99, 4, 2000, 1, 1960);
        due.sentence("else it stays");
        then(59, 59, 4, 1960, 0, NONE);
        then(30, 59, 4, 1931, 0, NONE);
        then(30, 31, 4, 1931, 0, NONE);
        then(30, 60, 0, 1931, 0, NONE);
        then(59, 99, 0, 1960, 0, NONE);
        due.sentence("if that ACT REVIVES: no other FLAG does");
        then(30, 70, 1, 1931, 0, NONE);
        then(30, 70, 2, 1931, 0, NONE);
        then(30, 70, 8, 1931, 0, NONE);
        then(30, 70, 11, 1931, 0, NONE);
        then(30, 70, 15, 1971, 1, 1960);
        due.sentence("it COMES BACK: once more");
        String acts = "ly1900,30,0,0,0,0;y1960,70,0,0,0,4;y1980,99,0,0,0,4;";
        free(acts + "a1900,1900;b0,1890,0,1;", 0, 2000, 2000, 2, 2, 1980);
        free(acts + "y1981,99,0,0,0,0;a1900,1900;b0,1890,0,1;", 0, 2000, 2000, 2, 3, 1980);
        free(acts + "y1990,0,0,0,0,0;a1900,1900;b0,1890,0,1;", 0, 1990, 1990, 2, 3, 1990);
    }

    private static void theActInForce() {
        due.sentence("At each EVENT, rising, next is TERM IN that YEAR: by the ACT IN FORCE then");
        String first = "ly1900,50,0,0,0,0;y1940,60,0,0,0,0;y1955,";
        free(first + "45,0,0,0,0;a1900,1900;b0,1890,0,1;", 0, 1955, 1955, 0, 2, 1955);
        free(first + "60,0,0,0,0;a1900,1900;b0,1890,0,1;", 0, 1961, 1961, 0, 2, 1940);
        free(first + "57,0,0,0,0;y1958,99,0,0,0,0;a1900,1900;b0,1890,0,1;", 0, 1958, 1958, 0, 3, 1955);
        due.sentence("the YEAR of the EVENT at which LAST last became another number");
        free("ly1900,50,0,0,0,0;y1910,60,0,0,0,0;y1920,50,0,0,0,0;y1930,50,0,0,0,0;a1900,1900;b0,1890,0,1;", 0, 1951, 1951, 0, 3, 1920);
        due.sentence("(4; NONE: at none)");
        free("ly1900,50,0,0,0,0;y1910,50,0,0,0,0;y1920,50,0,0,0,0;y1930,50,0,0,0,0;a1900,1900;b0,1890,0,1;", 0, 1951, 1951, 0, 3, NONE);
        due.sentence("by a PICTURE's and a NAMELESS WORK's TERM, too");
        free("ly1900,0,0,10,0,0;y1930,0,0,40,0,4;p0,1900,0,0;", 0, 1941, 1941, 1, 1, 1930);
        free("ly1900,0,40,0,0,0;y1930,0,10,0,0,0;n0,1900,1910,0;", 0, 1930, 1930, 0, 1, 1930);
    }

    private static void events() {
        due.sentence("EVENTS are YEARS that are later than that one: those of ACTS of the land");
        Subject x = Subject.read("ly1900,50,0,0,0,0;p0,1890,0,0;");
        due.is(x, 0, "free", 0, 0, 3);
        for (int act = 1; act < 4; act++) {
            x.call("enact", 0, 1900 + act, 50, 0);
            due.is(x, act, "free", 0, 0, 3);
        }
        x.call("repeal", 0);
        due.is(x, 2, "free", 0, 0, 3);
        due.sentence("those of ACTS of ORIGIN, if some ACT of the land COMPARES: the land being ORIGIN, each once");
        free("ly1900,50,0,0,0,8;y1901,50,0,0,0,8;a1800,1800;b0,1790,0,1;", 0, 1851, 1851, 0, 1, NONE);
    }

    /** Land 1 has an act of 1920; ORIGIN's acts are of these years. */
    private static void withOrigin(int flags, int count, int... years) {
        StringBuilder s = new StringBuilder("l");
        for (int year : years) {
            s.append('y').append(year).append(",50,0,0,0,0;");
        }
        String text = s + "ly1920,50,0,0,0," + flags + ";p0,1800,0,0;";
        due.on(text);
        due.is(Subject.read(text), count, "free", 0, 1, 3);
    }

    private static void eventsOfOrigin() {
        due.sentence("EVENTS: if some ACT of the land COMPARES, those of ACTS of ORIGIN; later than that one");
        withOrigin(8, 0, 1900);
        withOrigin(8, 0, 1919);
        withOrigin(8, 0, 1920);
        withOrigin(8, 1, 1921);
        withOrigin(8, 1, 1920, 1921);
        withOrigin(8, 2, 1919, 1920, 1921, 2099);
        withOrigin(15, 4, 1921, 1922, 1923, 2099);
        due.sentence("if some ACT of the land COMPARES: none does");
        withOrigin(0, 0, 1921);
        withOrigin(7, 0, 1919, 1920, 1921, 2099);
        due.sentence("(whichever that is)");
        String origin = "ly1910,50,0,0,0,8;y1930,50,0,0,0,8;y1950,50,0,0,0,0;";
        String work = "p0,1800,0,0;";
        due.is(Subject.read(origin + "ly1900,0,0,0,0,8;y1940,0,0,0,0,0;" + work), 4, "free", 0, 1, 3);
        due.is(Subject.read(origin + "ly1900,0,0,0,0,0;y1940,0,0,0,0,8;" + work), 4, "free", 0, 1, 3);
        due.is(Subject.read(origin + "ly1900,0,0,0,0,0;y1940,0,0,0,0,8;y1941,0,0,0,0,0;" + work), 5, "free", 0, 1, 3);
        due.is(Subject.read(origin + "ly1900,0,0,0,0,7;y1940,0,0,0,0,7;" + work), 1, "free", 0, 1, 3);
        due.sentence("each once");
        due.is(Subject.read(origin + "ly1900,0,0,0,0,8;y1930,0,0,0,0,0;" + work), 3, "free", 0, 1, 3);
        due.is(Subject.read(origin + "ly1910,0,0,0,0,8;y1930,0,0,0,0,8;y1950,0,0,0,0,8;" + work), 2, "free", 0, 1, 3);
        due.sentence("those of ORIGIN: not of other lands, and not in ORIGIN");
        due.is(Subject.read(origin + "ly1900,0,0,0,0,8;p1,1800,0,0;"), 0, "free", 0, 1, 3);
        due.is(Subject.read(origin + "ly1900,0,0,0,0,8;p1,1800,0,0;"), 2, "free", 0, 0, 3);
    }

    private static void comparing() {
        String book = "a1900,1900;b0,1890,0,1;";
        due.sentence("TERM IN a YEAR: if that COMPARES, and the land is not ORIGIN, the lesser of that and TERM by ORIGIN's");
        free("ly1900,50,0,0,0,0;ly1900,70,0,0,0,8;" + book, 1, 1951, 1951, 0, 0, NONE);
        free("ly1900,70,0,0,0,0;ly1900,50,0,0,0,8;" + book, 1, 1951, 1951, 0, 0, NONE);
        free("ly1900,60,0,0,0,0;ly1900,60,0,0,0,8;" + book, 1, 1961, 1961, 0, 0, NONE);
        due.sentence("if that COMPARES");
        free("ly1900,50,0,0,0,8;ly1900,70,0,0,0,7;" + book, 1, 1971, 1971, 0, 0, NONE);
        due.sentence("and the land is not ORIGIN");
        free("ly1900,70,0,0,0,8;ly1900,50,0,0,0,8;" + book, 0, 1971, 1971, 0, 0, NONE);
        due.sentence("if that COMPARES: the ACT IN FORCE in that YEAR, not another");
        String origin = "ly1900,50,0,0,0,0;y1940,60,0,0,0,0;";
        free(origin + "ly1920,70,0,0,0,0;y1980,70,0,0,0,8;" + book, 1, 1971, 1971, 0, 2, NONE);
        free(origin + "ly1920,70,0,0,0,0;y1960,70,0,0,0,8;" + book, 1, 1961, 1961, 0, 2, 1960);
        free(origin + "ly1920,70,0,0,0,8;y1950,70,0,0,0,0;" + book, 1, 1971, 1971, 0, 2, 1950);
        due.sentence("ORIGIN's ACT IN FORCE: ahead of all, the first one");
        free("ly1950,50,0,0,0,0;ly1900,70,0,0,0,8;" + book, 1, 1951, 1951, 0, 1, NONE);
        free("ly1950,20,0,0,0,0;y1960,80,0,0,0,0;ly1900,70,0,0,0,12;" + book, 1, 1971, 1971, 1, 2, 1960);
        due.sentence("TERM by ORIGIN's ACT: whose death counts is told by that one");
        String two = "a1900,1900;a1920,1920;b0,1890,0,3;";
        free("ly1900,50,0,0,0,0;ly1900,60,0,0,0,9;" + two, 1, 1951, 1951, 0, 0, NONE);
        free("ly1900,50,0,0,0,1;ly1900,80,0,0,0,8;" + two, 1, 1971, 1971, 0, 0, NONE);
        due.sentence("the lesser: one of them is NEVER");
        String alive = "a1900,1900;a;b0,1890,0,3;";
        free("ly1900,50,0,0,0,0;ly1900,60,0,0,0,9;" + alive, 1, 1951, 1951, 0, 0, NONE);
        free("ly1900,50,0,0,0,1;ly1900,60,0,0,0,8;" + alive, 1, 1961, 1961, 0, 0, NONE);
        free("ly1900,50,0,0,0,1;ly1900,60,0,0,0,9;" + alive, 1, Subject.NEVER, Subject.NEVER, 0, 0, NONE);
    }

    private static void atEventsOfOrigin() {
        String book = "a1900,1900;b0,1890,0,1;";
        due.sentence("At each EVENT: of ORIGIN's ACTS, too");
        free("ly1900,50,0,0,0,0;y1940,60,0,0,0,0;ly1920,70,0,0,0,8;" + book, 1, 1961, 1961, 0, 1, 1940);
        due.sentence("if the land's ACT IN FORCE in that YEAR KEEPS: not ORIGIN's");
        free("ly1900,50,0,0,0,0;y1940,45,0,0,0,0;ly1920,70,0,0,0,8;" + book, 1, 1946, 1946, 0, 1, 1940);
        free("ly1900,50,0,0,0,2;y1940,45,0,0,0,2;ly1920,70,0,0,0,8;" + book, 1, 1946, 1946, 0, 1, 1940);
        free("ly1900,50,0,0,0,0;y1940,45,0,0,0,0;ly1920,70,0,0,0,10;" + book, 1, 1951, 1951, 0, 1, NONE);
        due.sentence("if that ACT REVIVES: not ORIGIN's");
        free("ly1900,20,0,0,0,4;y1950,60,0,0,0,4;ly1910,70,0,0,0,8;" + book, 1, 1921, 1921, 0, 1, NONE);
        free("ly1900,20,0,0,0,0;y1950,60,0,0,0,0;ly1910,70,0,0,0,12;" + book, 1, 1961, 1961, 1, 1, 1950);
        due.sentence("later than that one: what ORIGIN had before is no EVENT, but its ACT IN FORCE counts");
        free("ly1900,20,0,0,0,0;y1910,60,0,0,0,0;ly1910,70,0,0,0,8;" + book, 1, 1961, 1961, 0, 0, NONE);
        free("ly1900,20,0,0,0,0;y1911,60,0,0,0,0;ly1910,70,0,0,0,8;" + book, 1, 1961, 1961, 0, 1, 1911);
        due.sentence("the land's ACT IN FORCE in that YEAR: the one before the EVENT of ORIGIN, or of the same YEAR");
        free("ly1900,20,0,0,0,0;y1950,60,0,0,0,0;ly1910,70,0,0,0,8;y1950,70,0,0,0,12;" + book, 1, 1961, 1961, 1, 1, 1950);
        free("ly1900,20,0,0,0,0;y1949,60,0,0,0,0;ly1910,70,0,0,0,8;y1950,10,0,0,0,12;" + book, 1, 1921, 1921, 0, 2, NONE);
    }

    private static void atTheirMost() {
        due.sentence("how many times it CAME BACK, how many EVENTS there are: at their most");
        // Each EVENT but that of ORIGIN's first act (1905) brings it back for some five years.
        String text = "ly1905,35,0,0,0,0;y1930,55,0,0,0,0;y1950,75,0,0,0,0;y1970,95,0,0,0,0;"
                + "ly1900,25,0,0,0,12;y1920,45,0,0,0,12;y1940,65,0,0,0,12;y1960,85,0,0,0,12;a1890,1890;b0,1880,0,1;";
        free(text, 1, 1976, 1976, 6, 7, 1970);
        free(text, 0, 1926, 1926, 0, 3, NONE);
    }

    private static void earliestAndLatest() {
        String book = ";b0,1890,0,1;";
        due.sentence("EARLIEST, LATEST: the least, the greatest FREE, k being 0 to K");
        free("ly1900,50,0,0,0,0;a1900,1900" + book, 0, 1951, 1951);
        free("ly1900,50,0,0,0,0;a1900,1901" + book, 0, 1951, 1952);
        free("ly1900,50,0,0,0,0;a1900,1960" + book, 0, 1951, 2011);
        free("ly1900,50,0,0,0,0;a1900,1961" + book, 0, 1951, 2011);
        free("ly1900,50,0,0,0,0;a1500,2099" + book, 0, 1551, 1611);
        due.sentence("the least FREE: of a k that is neither 0 nor K");
        // To 1980 for k below 10 (published late), to 1960 for k = 10, then later again.
        free("ly1900,50,0,0,20,0;a1900,1920;b0,1890,1960,1;", 0, 1961, 1981);
        due.sentence("the greatest FREE: of a k that is neither 0 nor K");
        // To 1950 .. 1959 for k = 0 .. 9, to 1965 for k = 10 .. 14 (published late), to 1959 for k = 15 .. 20.
        free("ly1900,50,0,0,0,0;y1960,0,0,0,50,0;a1900,1920;b0,1890,1915,1;", 0, 1951, 1966);
        due.sentence("k being 0 to K: each k, where whose death is the latest changes from k to k");
        free("ly1900,50,0,0,0,0;a1900,1901;a1901,1901;b0,1890,0,3;", 0, 1951, 1952);
        free("ly1900,50,0,0,0,1;a1900,1901;a1901,1901;b0,1890,0,3;", 0, 1952, 1952);
        free("ly1900,50,0,0,0,0;a1900,1902;a1901,1901;b0,1890,0,3;", 0, 1951, 1953);
        free("ly1900,50,0,0,0,1;a1901,1901;a1900,1902;b0,1890,0,3;", 0, 1952, 1953);
        due.sentence("of a PICTURE, a NAMELESS WORK: no k makes another one");
        free("ly1900,50,40,30,20,0;a1900,1950;p0,1890,0,1;", 0, 1921, 1921);
        free("ly1900,50,40,30,20,0;a1900,1950;n0,1890,0,1;", 0, 1931, 1931);
        due.sentence("MADE later than LAST: FREE all the same");
        free("ly1900,50,0,0,0,0;a1800,1800;b0,1999,0,1;", 0, 1851, 1851, 0, 0, NONE);
    }

    private static void forNoDoubt() {
        due.sentence("how many times it CAME BACK for k = 0 (2), .. LAST last became another number, for k = 0 (4)");
        // k = 0: 1930, back in 1960 to 1970; k = 30 and more: 1960 and more, not free before 1960, to 2000 and more.
        free("ly1900,30,0,0,0,0;y1960,70,0,0,0,4;a1900,1940;b0,1890,0,1;", 0, 1971, 2011, 1, 1, 1960);
        // LAST becomes next in 1940, but no other number, for any k.
        free("ly1900,60,0,0,0,0;y1940,60,0,0,0,0;a1900,1940;b0,1890,0,1;", 0, 1961, 2001, 0, 1, NONE);
        // k = 0: 1910, free before 1920, not revived; K: 1930, made longer in 1920.
        free("ly1900,10,0,0,0,0;y1920,50,0,0,0,0;a1900,1920;b0,1890,0,1;", 0, 1911, 1971, 0, 1, NONE);
    }

    private static void never() {
        due.sentence("FREE: NEVER, if LAST of the end is NEVER");
        free("ly1900,50,0,0,0,0;a;b0,1890,0,1;", 0, Subject.NEVER, Subject.NEVER, 0, 0, NONE);
        String alive = "a1900,1900;a;b0,1890,0,3;";
        due.sentence("LAST is NEVER, and becomes a YEAR");
        free("ly1900,50,0,0,0,1;y1940,60,0,0,0,0;" + alive, 0, 1961, 1961, 0, 1, 1940);
        free("ly1900,50,0,0,0,1;y1970,60,0,0,0,0;" + alive, 0, 1970, 1970, 0, 1, 1970);
        due.sentence("LAST is NEVER, and is kept");
        free("ly1900,50,0,0,0,1;y1940,60,0,0,0,2;" + alive, 0, Subject.NEVER, Subject.NEVER, 0, 1, NONE);
        due.sentence("LAST is a YEAR, and becomes NEVER");
        free("ly1900,50,0,0,0,0;y1950,60,0,0,0,1;" + alive, 0, Subject.NEVER, Subject.NEVER, 0, 1, 1950);
        free("ly1900,50,0,0,0,0;y1951,60,0,0,0,1;" + alive, 0, 1951, 1951, 0, 1, NONE);
        free("ly1900,50,0,0,0,0;y1951,60,0,0,0,5;" + alive, 0, Subject.NEVER, Subject.NEVER, 1, 1, 1951);
        due.sentence("EARLIEST is a YEAR, LATEST NEVER");
        // To 1950 for k = 0, free then; to 1951 for k = 1, when an act makes it NEVER.
        free("ly1900,50,0,0,0,0;y1951,60,0,0,0,1;a1900,1901;a;b0,1890,0,3;", 0, 1951, Subject.NEVER, 0, 1, NONE);
    }

    private static void noSuch() {
        due.sentence("EARLIEST (what = 0) .. (4); BAD");
        for (int what : new int[] {-1, 5, 6, Subject.MIN, Subject.MAX}) {
            due.bad("free", 0, 0, what);
        }
        due.sentence("BAD: there is no such WORK, land");
        for (int what = 0; what < 5; what++) {
            for (int out : new int[] {-1, 2, 8, Subject.MIN, Subject.MAX}) {
                due.bad("free", out, 0, what);
                due.bad("free", 0, out, what);
            }
        }
        Subject x = Subject.full();
        due.is(x, 1501, "free", 5, 3, 1);
        due.is(x, 3, "free", 5, 3, 3);
        due.is(x, Subject.BAD, "free", 6, 3, 0);
        due.is(x, Subject.BAD, "free", 5, 4, 0);
        due.is(new Subject(), Subject.BAD, "free", 0, 0, 0);
        due.sentence("free changes nothing");
        due.leaves(Subject::busy, 1971, "free", 0, 0, 0);
        due.leaves(Subject::busy, 1981, "free", 0, 0, 1);
        due.leaves(Subject::busy, 1, "free", 1, 0, 3);
    }

    private Promise17FreeTest() {
    }
}
