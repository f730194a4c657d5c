/** Promises 11 to 15: act, author, work, as, inForce. */
final class ThereIsTest {
    private static final Due due = new Due();

    public static void main(String[] args) {
        actsAndWorks();
        authors();
        deciding();
        kinds();
        inForce();
        due.finish();
    }

    private static void actsAndWorks() {
        RightTerms x = Due.read("ly1900,50,60,25,10,3;y1920,51,61,26,11,4;ly1700,0,0,0,0,0;a;a1900,1910;f1,1880,1890,3;");
        int[] second = {1920, 51, 61, 26, 11, 4};
        for (int what = 0; what < 6; what++) {
            due.is("act(0, 1, " + what + ")", x.act(0, 1, what), second[what]);
        }
        due.is("act(1, 0, 0)", x.act(1, 0, 0), 1700);
        due.is("act(0, 0, -1)", x.act(0, 0, -1), Due.BAD);
        due.is("act(0, 0, 6)", x.act(0, 0, 6), Due.BAD);
        due.is("act(0, 2, 0)", x.act(0, 2, 0), Due.BAD);
        due.is("act(0, -1, 0)", x.act(0, -1, 0), Due.BAD);
        due.is("act(1, 1, 0)", x.act(1, 1, 0), Due.BAD);
        due.is("act(2, 0, 0)", x.act(2, 0, 0), Due.BAD);
        due.is("act(-1, 0, 0)", x.act(-1, 0, 0), Due.BAD);
        int[] film = {4, 1, 1880, 1890, 3};
        for (int what = 0; what < 5; what++) {
            due.is("work(0, " + what + ")", x.work(0, what), film[what]);
        }
        due.is("work(0, -1)", x.work(0, -1), Due.BAD);
        due.is("work(0, 5)", x.work(0, 5), Due.BAD);
        due.is("work(1, 0)", x.work(1, 0), Due.BAD);
        due.is("work(-1, 0)", x.work(-1, 0), Due.BAD);
    }

    private static void authors() {
        RightTerms x = Due.read("ly1900,50,60,25,10,0;a;a1900,1910;a1920,1920;b0,1880,1890,3;p0,1900,0,2;n0,1900,0,0;");
        due.is("author(0, 0)", x.author(0, 0), 0);
        due.is("author(0, 1)", x.author(0, 1), 0);
        due.is("author(1, 0)", x.author(1, 0), 1900);
        due.is("author(1, 1)", x.author(1, 1), 1910);
        due.is("author(0, 2)", x.author(0, 2), 1);
        due.is("author(1, 2)", x.author(1, 2), 2);
        due.is("author(2, 2)", x.author(2, 2), 0);
        due.is("author(2, 3)", x.author(2, 3), 0);
        due.is("author(0, 4)", x.author(0, 4), Due.BAD);
        due.is("author(0, -1)", x.author(0, -1), Due.BAD);
        due.is("author(3, 0)", x.author(3, 0), Due.BAD);
        due.is("author(-1, 0)", x.author(-1, 0), Due.BAD);
    }

    private static void deciding() {
        // 0 died in 1900, 1 in 1910, 2 lives, 3 died from 1880 to 1909: never the last one.
        RightTerms x = Due.read("ly1900,50,60,25,10,0;a1900,1900;a1910,1910;a;a1880,1909;"
                + "s0,1870,0,3;b0,1870,0,3;f0,1870,0,7;p0,1870,0,15;s0,1870,0,10;b0,1870,0,8;");
        // The song has 1 as the last; of the book 0 counts alone; the film has 0 and 1, without one of them 2.
        due.is("author(0, 3): book, film", x.author(0, 3), 2);
        due.is("author(1, 3): songs, film", x.author(1, 3), 3);
        due.is("author(2, 3): none", x.author(2, 3), 0);
        due.is("author(3, 3): the book that would have none", x.author(3, 3), 1);
        x.change(3, 4, 1);
        due.is("a picture may have none", x.author(0, 3), 2);
        x.alter(0, 0, 5, 1);
        due.is("JOINT: of the book 1 counts", x.author(1, 3), 4);
        due.is("JOINT: 0 decides the film", x.author(0, 3), 1);
        due.is("nothing became another", x.work(0, 4), 3);
        x.die(1, 1890, 1890);
        due.is("1 decides the film, and EARLIEST of the song with 3", x.author(1, 3), 2);
        due.is("3 decides LATEST of that song now", x.author(3, 3), 2);
        Due.feed(x, "ly1900,0,0,0,0,0;a;b0,1900,0,1;");
        x.rights();
        due.is("fewer works: author(0, 2)", x.author(0, 2), 1);
        due.is("fewer works: author(0, 3)", x.author(0, 3), 1);

        // LATEST alone is another one, and only in land 1, which is JOINT.
        RightTerms y = Due.read("ly1900,50,0,0,0,0;ly1900,50,0,0,0,1;a1900,1900;a1890,1920;b0,1870,0,3;");
        due.is("LATEST in some land", y.author(1, 3), 1);
        due.is("undone: none", y.count(4), 0);
    }

    private static void kinds() {
        RightTerms x = Due.read("ly1900,50,60,25,10,0;a;b0,1900,0,1;s0,1900,0,1;p0,1900,0,1;f0,1900,0,1;n0,1900,0,1;");
        // Row by work, column by kind: WORK, BOOK, SONG, PICTURE, FILM, NAMELESS.
        String[] is = {"110000", "111000", "100100", "100010", "100001"};
        for (int work = 0; work < 5; work++) {
            due.is("work(" + work + ", 0)", x.work(work, 0), work + 1);
            for (int kind = 0; kind < 6; kind++) {
                due.is("as(" + work + ", " + kind + ")", x.as(work, kind), is[work].charAt(kind) == '1' ? work : Due.NONE);
            }
            due.is("as(" + work + ", -1)", x.as(work, -1), Due.BAD);
            due.is("as(" + work + ", 6)", x.as(work, 6), Due.BAD);
        }
        due.is("as(5, 0)", x.as(5, 0), Due.BAD);
        due.is("as(-1, 0)", x.as(-1, 0), Due.BAD);
    }

    private static void inForce() {
        RightTerms x = Due.read("ly1900,0,0,0,0,0;y1920,0,0,0,0,0;y1921,0,0,0,0,0;");
        int[] years = {1500, 1899, 1900, 1919, 1920, 1921, 2299};
        int[] acts = {0, 0, 0, 0, 1, 2, 2};
        for (int i = 0; i < years.length; i++) {
            due.is("inForce(0, " + years[i] + ")", x.inForce(0, years[i]), acts[i]);
        }
        due.is("inForce(0, 1499)", x.inForce(0, 1499), Due.BAD);
        due.is("inForce(0, 2300)", x.inForce(0, 2300), Due.BAD);
        due.is("inForce(1, 1900)", x.inForce(1, 1900), Due.BAD);
        due.is("inForce(-1, 1900)", x.inForce(-1, 1900), Due.BAD);
    }

    private ThereIsTest() {
    }
}
