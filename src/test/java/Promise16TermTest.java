/** Promise 16: term, with DEATH, K and TERM of "Terms", part 2. The years were counted by hand. */
final class Promise16TermTest {
    private static final Due due = new Due("Promise 16");

    public static void main(String[] args) {
        fromToAndK();
        kOfAWork();
        whoCounts();
        whoLives();
        lifeAndPublishedLate();
        pictures();
        nameless();
        byAnActAlone();
        noSuch();
        due.finish();
    }

    /** Work 0 by act 0 of land 0: for k = 0, for k = K. */
    private static void terms(String text, int least, int most) {
        Subject x = Subject.read(text);
        due.on(text);
        due.row(x, 0, new int[] {least, most}, "term", 0, 0, 0);
    }

    private static void fromToAndK() {
        due.sentence("died; for k (0 to 60) in FROM and k, together, or in TO, if that is less");
        String land = "ly1900,50,0,0,0,0;";
        String book = ";b0,1500,0,1;";
        terms(land + "a1900,1900" + book, 1950, 1950);
        terms(land + "a1900,1901" + book, 1950, 1951);
        terms(land + "a1900,1959" + book, 1950, 2009);
        terms(land + "a1900,1960" + book, 1950, 2010);
        due.sentence("K of a WORK: .. 60 at most");
        terms(land + "a1900,1961" + book, 1950, 2010);
        terms(land + "a1900,2099" + book, 1950, 2010);
        terms(land + "a1500,2099" + book, 1550, 1610);
        terms(land + "a2039,2099" + book, 2089, 2149);
        terms(land + "a2040,2099" + book, 2090, 2149);
        terms(land + "a2099,2099" + book, 2149, 2149);
    }

    private static void kOfAWork() {
        String land = "ly1900,50,0,0,0,0;";
        due.sentence("K of a WORK: the greatest TO less FROM of its AUTHORS");
        terms(land + "a1900,1901;a1890,1950;s0,1800,0,3;", 1950, 2000);
        terms(land + "a1890,1950;a1900,1901;s0,1800,0,3;", 1950, 2000);
        terms(land + "a1900,1950;a1900,1990;s0,1800,0,3;", 1950, 2010);
        terms(land + "a1900,1910;a1905,1905;s0,1800,0,3;", 1955, 1960);
        due.sentence("of its AUTHORS: not of others");
        terms(land + "a1900,1910;a1900,1990;a1900,1900;s0,1800,0,5;", 1950, 1960);
        due.sentence("(that do not LIVE)");
        terms(land + "a1900,1910;a;b0,1800,0,3;", 1950, 1960);
        terms(land + "a1900,1900;a;b0,1800,0,3;", 1950, 1950);
        due.sentence("(0 without such)");
        terms("ly1900,0,0,9,0,0;p0,1800,0,0;", 1809, 1809);
        terms("ly1900,0,0,9,0,0;a;p0,1800,0,1;", 1809, 1809);
        terms("ly1900,0,0,9,0,0;a;b0,1800,0,1;", Subject.NEVER, Subject.NEVER);
    }

    private static void counts(String kind, int set, int alone, int joint) {
        Subject x = Subject.read("ly1900,0,0,0,0,14;y1990,0,0,0,0,1;a1910,1910;a1900,1900;a1920,1920;a1930,1930;a;"
                + kind + "0,1890,0," + set + ";");
        due.on(kind + set);
        due.is(x, alone, "term", 0, 0, 0, 0);
        due.is(x, joint, "term", 0, 0, 1, 0);
    }

    private static void whoCounts() {
        // 0 died in 1910, 1 in 1900, 2 in 1920, 3 in 1930, 4 lives; LIFE is 0.
        due.sentence("the latest of those of its AUTHORS that COUNT: of a BOOK all, if the ACT is JOINT, else the least number");
        counts("b", 1, 1910, 1910);
        counts("b", 3, 1910, 1910);
        counts("b", 6, 1900, 1920);
        counts("b", 10, 1900, 1930);
        counts("b", 12, 1920, 1930);
        counts("b", 15, 1910, 1930);
        due.sentence("of a SONG all");
        counts("s", 2, 1900, 1900);
        counts("s", 3, 1910, 1910);
        counts("s", 6, 1920, 1920);
        counts("s", 10, 1930, 1930);
        counts("s", 15, 1930, 1930);
        due.sentence("of a FILM the two of the least numbers (or the one there is)");
        counts("f", 1, 1910, 1910);
        counts("f", 8, 1930, 1930);
        counts("f", 3, 1910, 1910);
        counts("f", 6, 1920, 1920);
        counts("f", 10, 1930, 1930);
        counts("f", 7, 1910, 1910);
        counts("f", 14, 1920, 1920);
        counts("f", 15, 1910, 1910);
        due.sentence("the greatest number there is");
        String eight = "ly1900,0,0,0,0,0;a1901,1901;a1902,1902;a1903,1903;a1904,1904;a1905,1905;a1906,1906;a1907,1907;a1908,1908;";
        terms(eight + "s0,1800,0,255;", 1908, 1908);
        terms(eight + "s0,1800,0,127;", 1907, 1907);
        terms(eight + "b0,1800,0,128;", 1908, 1908);
        terms(eight + "f0,1800,0,192;", 1908, 1908);
        terms(eight + "f0,1800,0,224;", 1907, 1907);
    }

    private static void whoLives() {
        due.sentence("if one of these LIVES, it is NEVER");
        counts("b", 16, Subject.NEVER, Subject.NEVER);
        counts("s", 17, Subject.NEVER, Subject.NEVER);
        counts("f", 24, Subject.NEVER, Subject.NEVER);
        due.sentence("one of these: of those that COUNT");
        counts("b", 17, 1910, Subject.NEVER);
        counts("f", 19, 1910, 1910);
        counts("f", 28, 1930, 1930);
        due.sentence("NEVER, if d is: PUBLISHED or not");
        terms("ly1900,50,0,0,20,0;a;b0,1890,2099,1;", Subject.NEVER, Subject.NEVER);
        terms("ly1900,0,0,0,0,0;a;a1900,1950;s0,1890,2099,3;", Subject.NEVER, Subject.NEVER);
    }

    private static void published(String kind, int published, int least, int most) {
        terms("ly1900,50,0,0,20,0;a1900,1910;" + kind + "0,1800," + published + ",1;", least, most);
    }

    private static void lifeAndPublishedLate() {
        due.sentence("else d and LIFE, together");
        terms("ly1900,0,0,0,0,0;a1900,1900;b0,1800,0,1;", 1900, 1900);
        terms("ly1900,99,0,0,0,0;a1900,1900;b0,1800,0,1;", 1999, 1999);
        terms("ly1900,99,0,0,0,0;a2099,2099;b0,1800,0,1;", 2198, 2198);
        terms("ly1900,0,0,0,0,0;a1500,1500;b0,1800,0,1;", 1500, 1500);
        due.sentence("but if PUBLISHED is more than that, PUBLISHED and LATE");
        for (String kind : new String[] {"b", "s", "f"}) {
            published(kind, 0, 1950, 1960);
            published(kind, 1800, 1950, 1960);
            published(kind, 1949, 1950, 1960);
            published(kind, 1950, 1950, 1960);
            published(kind, 1951, 1971, 1960);
            published(kind, 1960, 1980, 1960);
            published(kind, 1961, 1981, 1981);
            published(kind, 2099, 2119, 2119);
        }
        due.sentence("PUBLISHED and LATE: LATE 0 and 50");
        terms("ly1900,50,0,0,0,0;a1900,1900;b0,1800,1951,1;", 1951, 1951);
        terms("ly1900,50,0,0,50,0;a1900,1900;b0,1800,2099,1;", 2149, 2149);
    }

    private static void pictures() {
        due.sentence("PICTURE: MADE and PICTURES");
        terms("ly1900,50,60,0,20,0;p0,1900,0,0;", 1900, 1900);
        terms("ly1900,50,60,99,20,0;p0,1900,0,0;", 1999, 1999);
        terms("ly1900,50,60,99,20,0;p0,2099,2099,0;", 2198, 2198);
        terms("ly1900,50,60,25,20,0;a;p0,1900,2000,1;", 1925, 1925);
        terms("ly1900,50,60,25,20,1;a1900,1950;p0,1900,0,1;", 1925, 1925);
    }

    private static void nameless() {
        due.sentence("NAMELESS: PUBLISHED and PUBLIC, if it is PUBLISHED, no more than PUBLIC behind MADE");
        terms("ly1900,50,60,25,20,0;n0,1900,1900,0;", 1960, 1960);
        terms("ly1900,50,60,25,20,0;n0,1900,1959,0;", 2019, 2019);
        terms("ly1900,50,60,25,20,0;n0,1900,1960,0;", 2020, 2020);
        due.sentence("else MADE and PUBLIC");
        terms("ly1900,50,60,25,20,0;n0,1900,1961,0;", 1960, 1960);
        terms("ly1900,50,60,25,20,0;n0,1900,2099,0;", 1960, 1960);
        terms("ly1900,50,60,25,20,0;n0,1900,0,0;", 1960, 1960);
        due.sentence("PUBLIC 0 and 99");
        terms("ly1900,50,0,25,20,0;n0,1900,1900,0;", 1900, 1900);
        terms("ly1900,50,0,25,20,0;n0,1900,1901,0;", 1900, 1900);
        terms("ly1900,50,0,25,20,0;n0,1900,0,0;", 1900, 1900);
        terms("ly1900,50,99,25,20,0;n0,2000,2099,0;", 2198, 2198);
        terms("ly1900,50,98,25,20,0;n0,2000,2099,0;", 2098, 2098);
        due.sentence("NAMELESS: its AUTHORS do not count");
        terms("ly1900,50,60,25,20,1;a;a1900,1950;n0,1900,1960,3;", 2020, 2020);
    }

    private static void byAnActAlone() {
        due.sentence("TERM of a WORK by an ACT of a land alone (nothing compared)");
        Subject x = Subject.read("ly1900,10,0,0,0,0;y1950,20,0,0,0,0;ly1900,70,0,0,0,8;y1960,80,0,0,0,15;a1900,1910;b0,1890,0,1;");
        due.row(x, 0, new int[] {1910, 1920}, "term", 0, 0, 0);
        due.row(x, 0, new int[] {1920, 1930}, "term", 0, 0, 1);
        due.row(x, 0, new int[] {1970, 1980}, "term", 0, 1, 0);
        due.row(x, 0, new int[] {1980, 1990}, "term", 0, 1, 1);
        due.leaves(Subject::busy, 1950, "term", 0, 0, 0, 0);
        due.leaves(Subject::busy, 1960, "term", 0, 0, 0, 1);
    }

    private static void noSuch() {
        due.sentence("for k = 0 (what = 0), for k = K (1); BAD");
        for (int what : new int[] {-1, 2, Subject.MIN, Subject.MAX}) {
            due.bad("term", 0, 0, 0, what);
        }
        due.sentence("BAD: there is no such WORK, land, ACT");
        for (int out : new int[] {-1, 2, 8, Subject.MIN, Subject.MAX}) {
            due.bad("term", out, 0, 0, 0);
            due.bad("term", 0, out, 0, 0);
            due.bad("term", 0, 0, out, 0);
        }
        due.bad("term", 0, 1, 1, 0);
        Subject x = Subject.full();
        due.is(x, 1500, "term", 5, 3, 3, 1);
        due.is(x, Subject.BAD, "term", 6, 3, 3, 1);
        due.is(x, Subject.BAD, "term", 5, 4, 3, 1);
        due.is(x, Subject.BAD, "term", 5, 3, 4, 1);
        due.is(new Subject(), Subject.BAD, "term", 0, 0, 0, 0);
    }

    private Promise16TermTest() {
    }
}
