/** Promise 12: author. */
final class Promise12AuthorTest {
    private static final Due due = new Due("Promise 12");

    public static void main(String[] args) {
        fromAndTo();
        ofHowManyWorks();
        worksThatMustHaveSome();
        earliestOrLatest();
        inSomeLand();
        whoCounts();
        noSuch();
        due.finish();
    }

    private static void fromAndTo() {
        due.sentence("Of an AUTHOR: 0 FROM, 1 TO (0 both: LIVES)");
        Subject x = Subject.busy();
        due.row(x, 0, new int[] {1900, 1910}, "author", 0);
        due.row(x, 0, new int[] {0, 0}, "author", 1);
        Subject y = Subject.read(Subject.LAND + "a1500,2099;a1500,1500;a2099,2099;");
        due.row(y, 0, new int[] {1500, 2099}, "author", 0);
        due.row(y, 0, new int[] {1500, 1500}, "author", 1);
        due.row(y, 0, new int[] {2099, 2099}, "author", 2);
    }

    private static void ofHowManyWorks() {
        due.sentence("2 of how many WORKS it is one");
        Subject x = Subject.read("ly1900,50,0,0,0,0;a1900,1900;a1900,1900;a1900,1900;"
                + "b0,1900,0,3;s0,1900,0,3;p0,1900,0,1;f0,1900,0,1;n0,1900,0,1;p0,1900,0,1;");
        due.is(x, 6, "author", 0, 2);
        due.is(x, 2, "author", 1, 2);
        due.is(x, 0, "author", 2, 2);
        due.is(x, 0, "author", 2, 3);
        Subject full = Subject.full();
        due.is(full, 0, "author", 7, 2);
        full.call("change", 5, 4, 128);
        full.call("change", 0, 4, 255);
        due.is(full, 2, "author", 7, 2);
        due.is(full, 1, "author", 6, 2);
        due.is(Subject.read(Subject.LAND + "a;"), 0, "author", 0, 2);
        due.is(Subject.read(Subject.LAND + "a;"), 0, "author", 0, 3);
        due.sentence("of how many WORKS: of those there are");
        x.feed(Subject.LAND + "a;b0,1900,0,1;").call("rights");
        due.is(x, 1, "author", 0, 2);
        due.is(x, 1, "author", 0, 3);
    }

    private static void worksThatMustHaveSome() {
        due.sentence("a WORK that would have none, but must, counts");
        String alone = "ly1900,50,50,50,0,0;a1900,1900;";
        for (String work : new String[] {"b", "s", "f"}) {
            due.on(work);
            due.is(Subject.read(alone + work + "0,1900,0,1;"), 1, "author", 0, 3);
        }
        due.sentence("one that would have none, and may, does not");
        for (String work : new String[] {"p", "n"}) {
            due.on(work);
            due.is(Subject.read(alone + work + "0,1900,0,1;"), 0, "author", 0, 3);
        }
        due.sentence("a WORK that would have none counts, be it FREE or NEVER");
        due.is(Subject.read("ly1900,50,50,50,0,0;a;b0,1900,0,1;s0,1900,0,1;f0,1900,0,1;"), 3, "author", 0, 3);
        due.sentence("all of them");
        due.is(Subject.read(alone + "b0,1900,0,1;s0,1900,0,1;f0,1900,0,1;b0,1900,0,1;s0,1900,0,1;f0,1900,0,1;"), 6, "author", 0, 3);
    }

    private static void earliestOrLatest() {
        due.sentence("FREE of it, EARLIEST or LATEST, is another one without it");
        // EARLIEST 1961 by author 1, LATEST 1971 by author 0.
        Subject x = Subject.read("ly1900,50,0,0,0,0;a1900,1920;a1910,1910;s0,1890,0,3;");
        due.is(x, 1961, "free", 0, 0, 0);
        due.is(x, 1971, "free", 0, 0, 1);
        due.is(x, 1, "author", 0, 3);
        due.is(x, 1, "author", 1, 3);
        due.sentence("FREE is the same without it");
        x.call("die", 1, 1900, 1900);
        due.is(x, 0, "author", 1, 3);
        x.call("die", 1, 1901, 1901);
        due.is(x, 1, "author", 1, 3);
        x.call("die", 1, 1900, 1920);
        due.is(x, 0, "author", 0, 3);
        due.is(x, 0, "author", 1, 3);
        x.call("die", 1, 1900, 1921);
        due.is(x, 0, "author", 0, 3);
        due.is(x, 1, "author", 1, 3);
        due.sentence("one who LIVES: NEVER with it");
        x.call("die", 1, 0, 0);
        due.is(x, 0, "author", 0, 3);
        due.is(x, 1, "author", 1, 3);
        x.call("die", 0, 0, 0);
        due.is(x, 0, "author", 0, 3);
        due.is(x, 0, "author", 1, 3);
        due.sentence("K of a WORK: without it, the greatest of those that are left");
        // K is 60 by author 1, of which author 0 needs 20: the same without author 1, but for who is the latest.
        Subject y = Subject.read("ly1900,50,0,0,0,0;a1900,1920;a1800,1899;s0,1790,0,3;");
        due.is(y, 0, "author", 1, 3);
        due.is(y, 1, "author", 0, 3);
    }

    private static void inSomeLand() {
        due.sentence("in some land");
        // Author 1 counts in the last land alone, which is JOINT.
        String lands = "ly1900,50,0,0,0,0;ly1900,50,0,0,0,0;ly1900,50,0,0,0,0;ly1900,50,0,0,0,1;";
        due.is(Subject.read(lands + "a1900,1900;a1910,1910;b0,1890,0,3;"), 1, "author", 1, 3);
        due.is(Subject.read(lands + "a1900,1900;a1890,1890;b0,1890,0,3;"), 0, "author", 1, 3);
        String first = "ly1900,50,0,0,0,1;ly1900,50,0,0,0,0;";
        due.is(Subject.read(first + "a1900,1900;a1910,1910;b0,1890,0,3;"), 1, "author", 1, 3);
        due.sentence("by all laws: the chain of the land");
        // The second act is JOINT, but the work is free by then, and does not come back.
        String chain = "ly1900,50,0,0,0,0;y1960,50,0,0,0,";
        due.is(Subject.read(chain + "1;a1900,1900;a1920,1920;b0,1890,0,3;"), 0, "author", 1, 3);
        due.is(Subject.read(chain + "5;a1900,1900;a1920,1920;b0,1890,0,3;"), 1, "author", 1, 3);
    }

    private static void whoCounts() {
        due.sentence("of a BOOK the one of the least number, of a FILM the two of the least numbers");
        Subject x = Subject.read("ly1900,50,0,0,0,0;a1900,1900;a1910,1910;a1920,1920;b0,1890,0,7;f0,1890,0,7;");
        due.is(x, 2, "author", 0, 3);
        due.is(x, 1, "author", 1, 3);
        due.is(x, 0, "author", 2, 3);
        due.sentence("3 of how many its death would decide: nothing is changed by asking");
        due.leaves(Subject::busy, 1, "author", 0, 3);
        due.leaves(Subject::busy, 0, "author", 1, 3);
        due.leaves(Subject::busy, 1, "author", 0, 2);
    }

    private static void noSuch() {
        due.sentence("BAD: there is no such AUTHOR, number of one");
        for (int what = 0; what < 4; what++) {
            for (int author : new int[] {-1, 2, 8, Subject.MIN, Subject.MAX}) {
                due.bad("author", author, what);
            }
        }
        for (int what : new int[] {-1, 4, 5, Subject.MIN, Subject.MAX}) {
            due.bad("author", 0, what);
        }
        due.is(Subject.read(Subject.LAND), Subject.BAD, "author", 0, 0);
        Subject x = Subject.full();
        due.is(x, 0, "author", 7, 0);
        due.is(x, Subject.BAD, "author", 8, 0);
    }

    private Promise12AuthorTest() {
    }
}
