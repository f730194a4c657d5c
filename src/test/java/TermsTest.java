/** Promises 16 to 22: term, free, isProtected, span, everywhere, next, longer. The years were counted by hand. */
final class TermsTest {
    private static final Due due = new Due();

    public static void main(String[] args) {
        termsOfKinds();
        whoseDeath();
        doubt();
        keeping();
        comingBack();
        comparing();
        inDoubtInAYear();
        spans();
        everywhere();
        next();
        longer();
        due.finish();
    }

    private static void termsOfKinds() {
        RightTerms x = Due.read("ly1900,50,60,25,10,0;a1900,1930;b0,1890,0,1;b0,1890,1950,1;b0,1890,1951,1;"
                + "p0,1890,1900,0;n0,1890,1950,0;n0,1890,1951,0;");
        due.is("from a death", x.term(0, 0, 0, 0), 1950);
        due.is("from a death, for K", x.term(0, 0, 0, 1), 1980);
        due.is("published in the last year", x.term(1, 0, 0, 0), 1950);
        due.is("published late", x.term(2, 0, 0, 0), 1961);
        due.is("published late for k = 0, not for K", x.term(2, 0, 0, 1), 1980);
        due.is("a picture, from when it was made", x.term(3, 0, 0, 0), 1915);
        due.is("nameless, published within PUBLIC", x.term(4, 0, 0, 0), 2010);
        due.is("nameless, published later", x.term(5, 0, 0, 1), 1950);
        x.change(5, 3, 0);
        due.is("nameless, not published", x.term(5, 0, 0, 0), 1950);
        x.die(0, 0, 0);
        due.is("who lives", x.term(2, 0, 0, 0), Due.NEVER);
        due.is("who lives, FREE", x.free(2, 0, 0), Due.NEVER);
        due.is("term(6, 0, 0, 0)", x.term(6, 0, 0, 0), Due.BAD);
        due.is("term(-1, 0, 0, 0)", x.term(-1, 0, 0, 0), Due.BAD);
        due.is("term(0, 1, 0, 0)", x.term(0, 1, 0, 0), Due.BAD);
        due.is("term(0, -1, 0, 0)", x.term(0, -1, 0, 0), Due.BAD);
        due.is("term(0, 0, 1, 0)", x.term(0, 0, 1, 0), Due.BAD);
        due.is("term(0, 0, -1, 0)", x.term(0, 0, -1, 0), Due.BAD);
        due.is("term(0, 0, 0, 2)", x.term(0, 0, 0, 2), Due.BAD);
        due.is("term(0, 0, 0, -1)", x.term(0, 0, 0, -1), Due.BAD);

        RightTerms y = Due.read("ly1900,50,0,0,0,0;ly1900,70,0,0,0,8;a1900,1900;b0,1890,0,1;");
        due.is("by an act alone, nothing compared", y.term(0, 1, 0, 0), 1970);
    }

    private static void whoseDeath() {
        // 0 died in 1910, 1 in 1900, 2 in 1920, 3 lives.
        RightTerms x = Due.read("ly1900,50,0,0,0,0;y1990,50,0,0,0,1;a1910,1910;a1900,1900;a1920,1920;a;"
                + "b0,1890,0,6;s0,1890,0,6;f0,1890,0,7;f0,1890,0,4;f0,1890,0,12;b0,1890,0,11;");
        due.is("of a book the least number", x.term(0, 0, 0, 0), 1950);
        due.is("of a book all, if JOINT", x.term(0, 0, 1, 0), 1970);
        due.is("of a song all", x.term(1, 0, 0, 0), 1970);
        due.is("of a song all, if JOINT", x.term(1, 0, 1, 0), 1970);
        due.is("of a film two", x.term(2, 0, 0, 0), 1960);
        due.is("of a film two, if JOINT", x.term(2, 0, 1, 0), 1960);
        due.is("of a film the one there is", x.term(3, 0, 0, 0), 1970);
        due.is("of a film one who lives", x.term(4, 0, 0, 0), Due.NEVER);
        due.is("of a book one who lives does not count", x.term(5, 0, 0, 0), 1960);
        due.is("of a book one who lives counts, if JOINT", x.term(5, 0, 1, 0), Due.NEVER);
        x.change(2, 4, 15);
        due.is("of a film the fourth does not count", x.term(2, 0, 0, 0), 1960);
    }

    private static void doubt() {
        RightTerms x = Due.read("ly1900,50,0,0,20,0;a1900,1920;a1880,1999;a;b0,1890,0,1;b0,1890,0,2;b0,1890,0,7;b0,1890,1960,1;p0,1890,0,2;");
        due.is("EARLIEST", x.free(0, 0, 0), 1951);
        due.is("LATEST", x.free(0, 0, 1), 1971);
        due.is("K is 60 at most: EARLIEST", x.free(1, 0, 0), 1931);
        due.is("K is 60 at most: LATEST", x.free(1, 0, 1), 1991);
        due.is("K is 60 at most: term", x.term(1, 0, 0, 1), 1990);
        due.is("TO, where FROM and k is more", x.free(2, 0, 1), 1971);
        // Published late, to 1980, for k below 10; then to 1960 and more.
        due.is("EARLIEST is not that of k = 0", x.free(3, 0, 0), 1961);
        due.is("LATEST is not that of K", x.free(3, 0, 1), 1981);
        due.is("of a picture none", x.free(4, 0, 1), 1891);
        due.is("free(0, 0, 5)", x.free(0, 0, 5), Due.BAD);
        due.is("free(0, 0, -1)", x.free(0, 0, -1), Due.BAD);
        due.is("free(0, 1, 0)", x.free(0, 1, 0), Due.BAD);
        due.is("free(0, -1, 0)", x.free(0, -1, 0), Due.BAD);
        due.is("free(5, 0, 0)", x.free(5, 0, 0), Due.BAD);
        due.is("free(-1, 0, 0)", x.free(-1, 0, 0), Due.BAD);
    }

    /** A chain in one land: the book's author died in 1900, the second act is of 1960. */
    private static RightTerms twoActs(int life, int lifeThen, int flagsThen) {
        return Due.read("ly1900," + life + ",0,0,0,15;y1960," + lifeThen + ",0,0,0," + flagsThen
                + ";a1900,1900;b0,1890,0,1;");
    }

    private static void chain(String name, RightTerms x, int free, int back, int changed) {
        due.is(name + ": FREE", x.free(0, 0, 0), free);
        due.is(name + ": LATEST", x.free(0, 0, 1), free);
        due.is(name + ": CAME BACK", x.free(0, 0, 2), back);
        due.is(name + ": EVENTS", x.free(0, 0, 3), 1);
        due.is(name + ": changed in", x.free(0, 0, 4), changed);
    }

    private static void keeping() {
        chain("shorter", twoActs(70, 65, 0), 1966, 0, 1960);
        chain("shorter than the year less 1", twoActs(70, 50, 0), 1960, 0, 1960);
        chain("the year less 1", twoActs(70, 59, 13), 1960, 0, 1960);
        chain("shorter, KEEPS", twoActs(70, 50, 2), 1971, 0, Due.NONE);
        chain("longer, KEEPS", twoActs(70, 80, 2), 1981, 0, 1960);
        chain("longer", twoActs(70, 80, 0), 1981, 0, 1960);
        chain("the same", twoActs(70, 70, 0), 1971, 0, Due.NONE);
        chain("LAST is the year: longer", twoActs(60, 80, 0), 1981, 0, 1960);
        chain("LAST is the year: shorter", twoActs(60, 0, 0), 1960, 0, 1960);
    }

    private static void comingBack() {
        chain("free before, REVIVES", twoActs(30, 70, 4), 1971, 1, 1960);
        chain("free before, does not", twoActs(30, 70, 11), 1931, 0, Due.NONE);
        chain("REVIVES, to the year itself", twoActs(30, 60, 4), 1961, 1, 1960);
        chain("REVIVES, but not to the year", twoActs(30, 59, 4), 1931, 0, Due.NONE);
        chain("LAST is the year less 1, REVIVES", twoActs(59, 70, 4), 1971, 1, 1960);
        chain("LAST is the year less 1, does not", twoActs(59, 70, 0), 1960, 0, Due.NONE);

        RightTerms x = Due.read("ly1900,30,0,0,0,0;y1960,70,0,0,0,4;y1980,99,0,0,0,4;y1981,99,0,0,0,0;a1900,1900;b0,1890,0,1;");
        due.is("back twice", x.free(0, 0, 2), 2);
        due.is("back twice: FREE", x.free(0, 0, 0), 2000);
        due.is("back twice: EVENTS", x.free(0, 0, 3), 3);
        due.is("back twice: changed in", x.free(0, 0, 4), 1980);
    }

    private static void comparing() {
        // Land 1 compares: 1970 by itself; at home 1950, from 1940 on 1960.
        RightTerms x = Due.read("ly1900,50,0,0,0,0;y1940,60,0,0,0,0;ly1920,70,0,0,0,8;a1900,1900;b0,1890,0,1;b1,1890,0,1;");
        due.is("the shorter one at home", x.free(0, 1, 0), 1961);
        due.is("its EVENT", x.free(0, 1, 3), 1);
        due.is("changed in", x.free(0, 1, 4), 1940);
        due.is("not at home", x.free(1, 1, 0), 1971);
        due.is("not at home: EVENTS", x.free(1, 1, 3), 0);
        due.is("who does not compare", x.free(1, 0, 0), 1961);
        x.alter(0, 0, 1, 99);
        x.alter(0, 1, 1, 99);
        due.is("a longer one at home", x.free(0, 1, 0), 1971);
        x.alter(1, 0, 5, 0);
        due.is("compares no more", x.free(0, 1, 3), 0);
        x.enact(1, 2000, 70, 8);
        due.is("a later act compares: home's EVENTS count all", x.free(0, 1, 3), 2);
        x.enact(0, 2000, 70, 0);
        due.is("each year once", x.free(0, 1, 3), 2);
        x.enact(0, 2001, 70, 0);
        due.is("one year more", x.free(0, 1, 3), 3);
        due.is("at home: its own", x.free(0, 0, 3), 3);

        // Home revives nothing for the other land, but its law there counts in the year.
        RightTerms y = Due.read("ly1950,20,0,0,0,0;y1960,80,0,0,0,0;ly1900,70,0,0,0,12;a1900,1900;b0,1890,0,1;");
        due.is("ahead of all, the first act at home", y.free(0, 1, 4), 1960);
        due.is("comes back by home's law", y.free(0, 1, 2), 1);
        due.is("FREE then", y.free(0, 1, 0), 1971);
        due.is("home's first act is an EVENT too", y.free(0, 1, 3), 2);
        x.repeal(1);
        due.is("what compared is repealed", x.free(0, 1, 3), 0);
    }

    private static void inDoubtInAYear() {
        RightTerms x = Due.read("ly1900,30,0,0,0,0;y1960,70,0,0,0,4;a1900,1920;b0,1890,0,1;p0,1950,0,0;");
        // k = 0: to 1930, from 1960 to 1970; k = 20: to 1950, from 1960 to 1990.
        int[] years = {1500, 1889, 1890, 1930, 1931, 1950, 1951, 1959, 1960, 1970, 1971, 1990, 1991, 2299};
        int[] want = {0, 0, 1, 1, 2, 2, 0, 0, 1, 1, 2, 2, 0, 0};
        for (int i = 0; i < years.length; i++) {
            due.is("isProtected(0, 0, " + years[i] + ")", x.isProtected(0, 0, years[i]), want[i]);
        }
        due.is("a picture in its year", x.isProtected(1, 0, 1950), 1);
        due.is("a picture then", x.isProtected(1, 0, 1951), 0);
        x.alter(0, 0, 3, 99);
        x.alter(0, 1, 3, 99);
        due.is("the book in 1955", x.isProtected(0, 0, 1955), 0);
        due.is("the picture in 1955, behind the book", x.isProtected(1, 0, 1955), 1);
        due.is("in 1499", x.isProtected(0, 0, 1499), Due.BAD);
        due.is("in 2300", x.isProtected(0, 0, 2300), Due.BAD);
        due.is("no work", x.isProtected(2, 0, 1900), Due.BAD);
        due.is("no work -1", x.isProtected(-1, 0, 1900), Due.BAD);
        due.is("no land", x.isProtected(0, 1, 1900), Due.BAD);
        due.is("no land -1", x.isProtected(0, -1, 1900), Due.BAD);
        x.die(0, 0, 0);
        due.is("who lives", x.isProtected(0, 0, 2299), 1);
    }

    private static void row(RightTerms x, int i, int first, int last) {
        due.is("span(0, 0, " + i + ", 0)", x.span(0, 0, i, 0), first);
        due.is("span(0, 0, " + i + ", 1)", x.span(0, 0, i, 1), last);
    }

    private static void spans() {
        RightTerms x = twoActs(30, 70, 4);
        row(x, 0, 1890, 1930);
        row(x, 1, 1960, 1970);
        row(x, 2, Due.NONE, Due.NONE);
        x.change(0, 2, 1930);
        row(x, 0, 1930, 1930);
        x.change(0, 2, 1931);
        row(x, 0, 1960, 1970);
        row(x, 1, Due.NONE, Due.NONE);
        x.change(0, 2, 1965);
        row(x, 0, 1965, 1970);
        x.change(0, 2, 1970);
        row(x, 0, 1970, 1970);
        x.change(0, 2, 1971);
        row(x, 0, Due.NONE, Due.NONE);
        due.is("span i below 0", x.span(0, 0, -1, 0), Due.BAD);
        due.is("span what 2", x.span(0, 0, 0, 2), Due.BAD);
        due.is("span what -1", x.span(0, 0, 0, -1), Due.BAD);
        due.is("span no work", x.span(1, 0, 0, 0), Due.BAD);
        due.is("span no land", x.span(0, 1, 0, 0), Due.BAD);
        due.is("span i at its most", x.span(0, 0, Integer.MAX_VALUE, 0), Due.NONE);

        RightTerms y = twoActs(59, 70, 4);
        row(y, 0, 1890, 1970);
        row(y, 1, Due.NONE, Due.NONE);
        y.alter(0, 0, 1, 58);
        row(y, 0, 1890, 1958);
        row(y, 1, 1960, 1970);
        y.die(0, 0, 0);
        row(y, 0, 1890, Due.NEVER);
        RightTerms z = Due.read("ly1900,30,0,0,0,0;y1960,70,0,0,0,4;y1980,99,0,0,0,4;a1900,1900;b0,1890,0,1;");
        row(z, 0, 1890, 1930);
        row(z, 1, 1960, 1970);
        row(z, 2, 1980, 1999);
        row(z, 3, Due.NONE, Due.NONE);
        // The years ahead of what shortens it stay protected.
        row(twoActs(70, 0, 0), 0, 1890, 1959);
    }

    private static void everywhere() {
        RightTerms x = Due.read("ly1900,70,0,0,0,0;ly1900,50,0,9,0,0;ly1900,50,0,9,0,1;a1900,1900;a1900,1920;a;"
                + "b0,1890,0,3;p0,1890,0,0;s0,1890,0,7;b0,1890,0,2;");
        answers(x, 0, 1, 1951, 1971, 1);
        answers(x, 1, 0, 1891, 1900, 0);
        answers(x, 2, 0, Due.NEVER, Due.NEVER, 0);
        answers(x, 3, 1, 1951, 1991, 3);
        due.is("everywhere(4, 0)", x.everywhere(4, 0), Due.BAD);
        due.is("everywhere(-1, 0)", x.everywhere(-1, 0), Due.BAD);
        due.is("everywhere(0, 4)", x.everywhere(0, 4), Due.BAD);
        due.is("everywhere(0, -1)", x.everywhere(0, -1), Due.BAD);
    }

    private static void answers(RightTerms x, int work, int... want) {
        for (int what = 0; what < 4; what++) {
            due.is("everywhere(" + work + ", " + what + ")", x.everywhere(work, what), want[what]);
        }
    }

    private static void next() {
        RightTerms x = Due.read("ly1900,70,0,10,0,0;ly1900,50,0,61,0,0;a1900,1900;a;b0,1890,0,1;p0,1890,0,0;s0,1890,0,2;p0,1890,0,0;");
        // Land 0: the book in 1971, the pictures in 1901; land 1: the book in 1951, the pictures in 1952; the song never.
        int[] years = {1901, 1901, 1951, 1952, 1952, 1971};
        int[] which = {1, 3, 10, 11, 13, 0};
        for (int i = 0; i < 6; i++) {
            due.is("next(1500, " + i + ", 0)", x.next(1500, i, 0), years[i]);
            due.is("next(1500, " + i + ", 1)", x.next(1500, i, 1), which[i]);
        }
        due.is("next(1500, 6, 0)", x.next(1500, 6, 0), Due.NONE);
        due.is("next(1500, max, 1)", x.next(1500, Integer.MAX_VALUE, 1), Due.NONE);
        due.is("next(1901, 0, 1)", x.next(1901, 0, 1), 1);
        due.is("next(1902, 0, 0)", x.next(1902, 0, 0), 1951);
        due.is("next(1952, 1, 1)", x.next(1952, 1, 1), 13);
        due.is("next(1971, 0, 1)", x.next(1971, 0, 1), 0);
        due.is("next(2299, 0, 0)", x.next(2299, 0, 0), Due.NONE);
        due.is("next(1499, 0, 0)", x.next(1499, 0, 0), Due.BAD);
        due.is("next(2300, 0, 0)", x.next(2300, 0, 0), Due.BAD);
        due.is("next(1900, -1, 0)", x.next(1900, -1, 0), Due.BAD);
        due.is("next(1900, 0, 2)", x.next(1900, 0, 2), Due.BAD);
        due.is("next(1900, 0, -1)", x.next(1900, 0, -1), Due.BAD);
        x.alter(0, 0, 1, 51);
        x.alter(1, 0, 1, 51);
        x.alter(0, 0, 3, 61);
        int[] then = {0, 1, 3, 10, 11, 13};
        for (int i = 0; i < 6; i++) {
            due.is("all in 1952, number " + i, x.next(1952, i, 1), then[i]);
        }
        Due.feed(x, "ly1900,70,0,10,0,0;p0,1890,0,0;");
        x.rights();
        due.is("fewer works: the one there is", x.next(1500, 0, 1), 0);
        due.is("fewer works: no more", x.next(1500, 1, 1), Due.NONE);
        due.is("next without RIGHTS, ahead of BAD", new RightTerms().next(0, -1, 9), Due.STATE);
        due.is("next without works", Due.read("ly1700,0,0,0,0,0;").next(1500, 0, 0), Due.NONE);
    }

    private static void longer() {
        RightTerms x = Due.read("ly1900,40,0,0,0,0;a1900,1920;a;b0,1890,0,1;s0,1890,0,3;p0,1890,0,1;");
        due.is("longer by 20", x.longer(0, 0, 20), 20);
        due.is("longer by 0", x.longer(0, 0, 0), 0);
        due.is("held to 99", x.longer(0, 0, 50), 50);
        x.alter(0, 0, 1, 60);
        due.is("held to 99 from 60", x.longer(0, 0, 50), 39);
        x.alter(0, 0, 1, 40);
        due.is("held to 0", x.longer(0, 0, -50), -40);
        due.is("NEVER", x.longer(1, 0, 5), Due.NONE);
        due.is("a picture", x.longer(2, 0, 5), 0);
        due.is("longer by 51", x.longer(0, 0, 51), Due.BAD);
        due.is("longer by -51", x.longer(0, 0, -51), Due.BAD);
        due.is("longer, no work", x.longer(3, 0, 0), Due.BAD);
        due.is("longer, no work -1", x.longer(-1, 0, 0), Due.BAD);
        due.is("longer, no land", x.longer(0, 1, 0), Due.BAD);
        due.is("longer, no land -1", x.longer(0, -1, 0), Due.BAD);
        due.is("LIFE as it was", x.act(0, 0, 1), 40);
        due.is("no deed of it", x.count(4), 2);

        RightTerms y = twoActs(70, 65, 0);
        due.is("of the last act", y.longer(0, 0, 10), 10);
        due.is("not below the year less 1", y.longer(0, 0, -50), -6);
        RightTerms z = twoActs(30, 50, 4);
        due.is("would come back", z.longer(0, 0, 20), 40);
        RightTerms home = Due.read("ly1900,50,0,0,0,0;ly1900,50,0,0,0,8;a1900,1900;b0,1890,0,1;");
        due.is("home's is the shorter one", home.longer(0, 1, 20), 0);
        due.is("sooner than home's", home.longer(0, 1, -20), -20);
        due.is("at home", home.longer(0, 0, 20), 20);
    }

    private TermsTest() {
    }
}
