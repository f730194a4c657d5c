/** Promise 18: isProtected, and PROTECTED of "Terms", part 2. The years were counted by hand. */
final class Promise18IsProtectedTest {
    private static final Due due = new Due("Promise 18");

    public static void main(String[] args) {
        fromMadeToLast();
        gaps();
        allNoneSome();
        innerDoubt();
        years();
        noSuch();
        due.finish();
    }

    /** Pairs of a year and the answer in it. */
    private static void inYears(String text, int land, int... pairs) {
        Subject x = Subject.read(text);
        due.on(text);
        for (int i = 0; i < pairs.length; i += 2) {
            due.is(x, pairs[i + 1], "isProtected", 0, land, pairs[i]);
        }
    }

    private static void fromMadeToLast() {
        due.sentence("PROTECTED are all YEARS from MADE to LAST of the end");
        inYears("ly1900,50,0,0,0,0;a1900,1900;b0,1890,0,1;", 0, 1500, 0, 1889, 0, 1890, 1, 1891, 1, 1949, 1, 1950, 1, 1951, 0, 2299, 0);
        inYears("ly1900,0,0,0,0,0;p0,1500,0,0;", 0, 1500, 1, 1501, 0);
        inYears("ly1900,0,0,99,0,0;p0,2099,0,0;", 0, 2098, 0, 2099, 1, 2198, 1, 2199, 0);
        due.sentence("ahead of the first ACT, too");
        inYears("ly2000,50,0,0,0,0;a1900,1900;b0,1890,0,1;", 0, 1889, 0, 1890, 1, 1950, 1, 1951, 0, 2000, 0);
        due.sentence("(none, if that is less than MADE)");
        inYears("ly1900,50,0,0,0,0;a1900,1900;b0,1950,0,1;", 0, 1949, 0, 1950, 1, 1951, 0);
        inYears("ly1900,50,0,0,0,0;a1900,1900;b0,1951,0,1;", 0, 1949, 0, 1950, 0, 1951, 0, 1952, 0);
        inYears("ly1900,50,0,0,0,0;a1900,1900;b0,2099,0,1;", 0, 1950, 0, 1951, 0, 2098, 0, 2099, 0);
        due.sentence("to LAST of the end, being NEVER");
        inYears("ly1900,50,0,0,0,0;a;b0,1890,0,1;", 0, 1889, 0, 1890, 1, 2299, 1);
        due.sentence("LAST of the end: what an EVENT made shorter");
        inYears("ly1900,70,0,0,0,0;y1960,0,0,0,0,0;a1900,1900;b0,1890,0,1;", 0, 1959, 1, 1960, 0, 1970, 0);
    }

    private static void gaps() {
        due.sentence("without those that are later than a LAST and earlier than the EVENT at which it CAME BACK from that");
        String then = ",0,0,0,0;y1960,70,0,0,0,4;a1900,1900;b0,";
        inYears("ly1900,30" + then + "1890,0,1;", 0, 1889, 0, 1890, 1, 1930, 1, 1931, 0, 1959, 0, 1960, 1, 1970, 1, 1971, 0);
        due.sentence("one YEAR, no YEAR between");
        inYears("ly1900,58" + then + "1890,0,1;", 0, 1958, 1, 1959, 0, 1960, 1, 1970, 1, 1971, 0);
        inYears("ly1900,59" + then + "1890,0,1;", 0, 1958, 1, 1959, 1, 1960, 1, 1970, 1, 1971, 0);
        due.sentence("MADE between, or at an edge");
        inYears("ly1900,30" + then + "1930,0,1;", 0, 1929, 0, 1930, 1, 1931, 0, 1959, 0, 1960, 1);
        inYears("ly1900,30" + then + "1931,0,1;", 0, 1930, 0, 1931, 0, 1959, 0, 1960, 1, 1970, 1);
        inYears("ly1900,30" + then + "1965,0,1;", 0, 1960, 0, 1964, 0, 1965, 1, 1970, 1, 1971, 0);
        due.sentence("each time that it CAME BACK");
        inYears("ly1905,35,0,0,0,0;y1930,55,0,0,0,0;y1950,75,0,0,0,0;y1970,95,0,0,0,0;"
                + "ly1900,25,0,0,0,12;y1920,45,0,0,0,12;y1940,65,0,0,0,12;y1960,85,0,0,0,12;a1890,1890;b0,1880,0,1;", 1,
                1915, 1, 1916, 0, 1919, 0, 1920, 1, 1925, 1, 1926, 0, 1929, 0, 1930, 1, 1935, 1, 1936, 0, 1939, 0, 1940, 1,
                1945, 1, 1946, 0, 1949, 0, 1950, 1, 1955, 1, 1956, 0, 1959, 0, 1960, 1, 1965, 1, 1966, 0, 1969, 0, 1970, 1,
                1975, 1, 1976, 0);
    }

    private static void allNoneSome() {
        due.sentence("1 for all k (0 to K), 0 for none, 2 for some");
        inYears("ly1900,0,0,0,0,0;a1900,1901;b0,1890,0,1;", 0, 1889, 0, 1890, 1, 1900, 1, 1901, 2, 1902, 0);
        inYears("ly1900,0,0,0,0,0;a1900,1960;b0,1890,0,1;", 0, 1900, 1, 1901, 2, 1959, 2, 1960, 2, 1961, 0);
        inYears("ly1900,0,0,0,0,0;a1900,1961;b0,1890,0,1;", 0, 1900, 1, 1901, 2, 1960, 2, 1961, 0);
        inYears("ly1900,0,0,0,0,0;a1900,1900;b0,1890,0,1;", 0, 1900, 1, 1901, 0);
        due.sentence("2 for some: a gap for some k alone");
        // k = 0: to 1930, from 1960 to 1970; k = 20: to 1950, from 1960 to 1990.
        inYears("ly1900,30,0,0,0,0;y1960,70,0,0,0,4;a1900,1920;b0,1890,0,1;", 0,
                1889, 0, 1890, 1, 1930, 1, 1931, 2, 1950, 2, 1951, 0, 1959, 0, 1960, 1, 1970, 1, 1971, 2, 1990, 2, 1991, 0);
        due.sentence("for all k: of a WORK that no k makes another");
        inYears("ly1900,0,0,9,0,0;a1900,1950;p0,1890,0,1;", 0, 1899, 1, 1900, 0);
    }

    private static void innerDoubt() {
        due.sentence("2 for some: not for 0, not for K");
        // To 1950 .. 1959 for k = 0 .. 9, to 1965 for k = 10 .. 14, to 1959 for k = 15 .. 20.
        inYears("ly1900,50,0,0,0,0;y1960,0,0,0,50,0;a1900,1920;b0,1890,1915,1;", 0,
                1950, 1, 1951, 2, 1959, 2, 1960, 2, 1965, 2, 1966, 0);
        due.sentence("2 for some: for 0 and for K, not for all between");
        // To 1980 for k below 10, to 1960 for k = 10, to 1970 for k = 20.
        inYears("ly1900,50,0,0,20,0;a1900,1920;b0,1890,1960,1;", 0, 1960, 1, 1961, 2, 1970, 2, 1971, 2, 1980, 2, 1981, 0);
    }

    private static void years() {
        due.sentence("in a YEAR (1500 to 2299) .. BAD");
        due.leaves(Subject::busy, 0, "isProtected", 0, 0, 1500);
        due.leaves(Subject::busy, 0, "isProtected", 0, 0, 2299);
        due.leaves(Subject::busy, 2, "isProtected", 0, 0, 1955);
        for (int year : new int[] {1499, 2300, 0, -1, 9999, Subject.MIN, Subject.MAX}) {
            due.bad("isProtected", 0, 0, year);
        }
        Subject alive = Subject.read("ly1900,50,0,0,0,0;a;b0,1500,0,1;");
        due.is(alive, 1, "isProtected", 0, 0, 1500);
        due.is(alive, 1, "isProtected", 0, 0, 2299);
        due.is(alive, Subject.BAD, "isProtected", 0, 0, 2300);
        due.is(alive, Subject.BAD, "isProtected", 0, 0, 1499);
    }

    private static void noSuch() {
        due.sentence("BAD: there is no such WORK, land");
        for (int out : new int[] {-1, 2, 8, Subject.MIN, Subject.MAX}) {
            due.bad("isProtected", out, 0, 1900);
            due.bad("isProtected", 0, out, 1900);
        }
        Subject x = Subject.full();
        due.is(x, 1, "isProtected", 5, 3, 1500);
        due.is(x, Subject.BAD, "isProtected", 6, 3, 1500);
        due.is(x, Subject.BAD, "isProtected", 5, 4, 1500);
        due.is(new Subject(), Subject.BAD, "isProtected", 0, 0, 1900);
        due.sentence("one WORK behind the other");
        Subject y = Subject.read("ly1900,30,0,99,0,0;y1960,70,0,99,0,4;a1900,1920;b0,1890,0,1;p0,1950,0,0;");
        due.is(y, 0, "isProtected", 0, 0, 1955);
        due.is(y, 1, "isProtected", 1, 0, 1955);
        due.is(y, 0, "isProtected", 0, 0, 1955);
    }

    private Promise18IsProtectedTest() {
    }
}
