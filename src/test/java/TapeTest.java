/** Promises 1 to 4: a new object, feed, rights, fault. */
final class TapeTest {
    private static final Due due = new Due();
    private static final String LAND = "ly1700,0,0,0,0,0;";

    public static void main(String[] args) {
        aNewObject();
        feeding();
        reading();
        wrongPlaces();
        wrongNumbers();
        noRoom();
        theFirstFault();
        afterAFault();
        due.finish();
    }

    private static void aNewObject() {
        RightTerms x = new RightTerms();
        for (int what = 0; what <= 5; what++) {
            due.is("new: count(" + what + ")", x.count(what), 0);
        }
        due.is("new: fault()", x.fault(), 0);
        due.is("new: undo()", x.undo(), Due.STATE);
        due.is("new: next(1500, 0, 0)", x.next(1500, 0, 0), Due.STATE);
        due.is("new: work(0, 0)", x.work(0, 0), Due.BAD);
        due.is("new: inForce(0, 1900)", x.inForce(0, 1900), Due.BAD);
        due.is("new: restore(1)", x.restore(1), Due.STATE);
    }

    private static void feeding() {
        RightTerms x = new RightTerms();
        due.is("feed(-1)", x.feed(-1), Due.BAD);
        due.is("feed(256)", x.feed(256), Due.BAD);
        due.is("feed(min)", x.feed(Integer.MIN_VALUE), Due.BAD);
        due.is("count(5) behind refusals", x.count(5), 0);
        for (int i = 1; i <= 250; i++) {
            due.is("feed number " + i, x.feed(i % 256), i);
        }
        due.is("feed number 251", x.feed(0), Due.FULL);
        due.is("feed(256) on a full tape", x.feed(256), Due.BAD);
        due.is("count(5) of a full tape", x.count(5), 250);
        due.is("rights() of a full tape", x.rights(), -1000100);
        due.is("count(5) behind rights()", x.count(5), 0);
        due.is("feed(255)", x.feed(255), 1);
    }

    private static void reading() {
        reads(LAND, 0);
        reads(LAND + "a;", 0);
        reads(LAND + "p0,1500,0,0;", 1);
        reads(LAND + LAND + LAND + LAND + "n3,2099,2099,0;", 1);
        reads(LAND + "a1500,1500;a2099,2099;b0,1900,0,3;s0,1900,1900,2;f0,1500,2099,1;", 3);
        reads("ly1700,99,99,99,50,15;y1701,0,0,0,0,0;y1702,0,0,0,0,0;y2099,0,0,0,0,0;", 0);
        reads("ly1700,00,000,0000,01,007;a;p0000,1900,0000,0001;", 1);
        reads(LAND + "a;a;a;a;a;a;a;a;p0,1900,0,255;n0,1900,0,0;b0,1900,0,1;s0,1900,0,128;f0,1900,0,7;n0,1900,0,0;", 6);

        RightTerms x = Due.read("ly1880,30,40,25,10,1;y1995,70,71,50,26,13;ly1900,50,50,20,0,0;a1885,1890;a;s1,1889,0,3;");
        due.is("count(0)", x.count(0), 2);
        due.is("count(1)", x.count(1), 3);
        due.is("count(2)", x.count(2), 2);
        due.is("count(3)", x.count(3), 1);
        due.is("rights() on an empty tape", x.rights(), -1000100);
        due.is("count(3) as before", x.count(3), 1);
        x.alter(0, 0, 1, 31);
        Due.feed(x, LAND + "p0,1900,0,0;n0,1900,0,0;");
        due.is("count(4) before rights()", x.count(4), 1);
        due.is("rights() again", x.rights(), 2);
        due.is("count(0) anew", x.count(0), 1);
        due.is("count(2) anew", x.count(2), 0);
        due.is("count(4) anew", x.count(4), 0);
        due.is("undo() anew", x.undo(), Due.STATE);
    }

    private static void wrongPlaces() {
        fails("", 0, 1);
        fails("x", 0, 1);
        fails("a;", 0, 1);
        fails("L", 0, 1);
        fails(" " + LAND, 0, 1);
        fails("l", 1, 1);
        fails("ll", 1, 1);
        fails("l1700", 1, 1);
        fails("ly,", 2, 1);
        fails("ly", 2, 1);
        fails("ly1700", 6, 1);
        fails("ly1700;", 6, 1);
        fails("ly1700,0,0,0,0,0,", 16, 1);
        fails("ly1700,0,0,0,0;", 14, 1);
        fails("ly1700,,", 7, 1);
        fails("ly12345", 2, 1);
        fails("ly01700,", 2, 1);
        fails("ly1700,00000,", 7, 1);
        fails("ly1700 ,", 6, 1);
        fails(LAND + "x", 17, 1);
        fails(LAND + "1", 17, 1);
        fails(LAND + "12345", 17, 1);
        fails(LAND + ";", 17, 1);
        fails(LAND + "a", 18, 1);
        fails(LAND + "a,", 18, 1);
        fails(LAND + "a1900;", 22, 1);
        fails(LAND + "a1900,;", 23, 1);
        fails(LAND + "a1900,1900", 27, 1);
        fails(LAND + "a1900,1900,", 27, 1);
        fails(LAND + "a;l", 19, 1);
        fails(LAND + "a;y", 19, 1);
        fails(LAND + "p0,1900,0,0;a;", 29, 1);
        fails(LAND + "p0,1900,0,0;l", 29, 1);
        fails(LAND + "p;", 18, 1);
        fails(LAND + "p0,1900,0;", 26, 1);
        fails(LAND + "p0,1900,0,0", 28, 1);
        fails(LAND + "p0,1900,0,0,", 28, 1);
        fails(LAND + (char) 0, 17, 1);
        fails(LAND + (char) 255, 17, 1);
    }

    private static void wrongNumbers() {
        fails("ly1699,", 2, 2);
        fails("ly2100,", 2, 2);
        fails("ly1700,100,", 7, 2);
        fails("ly1700,0,100,", 9, 2);
        fails("ly1700,0,0,100,", 11, 2);
        fails("ly1700,0,0,0,51,", 13, 2);
        fails("ly1700,0,0,0,0,16;", 15, 2);
        fails(LAND + "y1700,", 18, 2);
        fails("ly2099,0,0,0,0,0;y2099,", 18, 2);
        fails(LAND + "a1499,1500;", 18, 2);
        fails(LAND + "a2100,2100;", 18, 2);
        fails(LAND + "a1900,1899;", 23, 2);
        fails(LAND + "a1900,2100;", 23, 2);
        fails(LAND + "a0,0;", 18, 2);
        fails(LAND + "p1,", 18, 2);
        fails(LAND + "p0,1499,", 20, 2);
        fails(LAND + "p0,2100,", 20, 2);
        fails(LAND + "p0,1900,1899,", 25, 2);
        fails(LAND + "p0,1900,2100,", 25, 2);
        fails(LAND + "p0,1900,1,", 25, 2);
        fails(LAND + "p0,1900,0,1;", 27, 2);
        fails(LAND + "b0,1900,0,0;", 27, 2);
        fails(LAND + "a;b0,1900,0,0;", 29, 2);
        fails(LAND + "a;s0,1900,0,0;", 29, 2);
        fails(LAND + "a;f0,1900,0,0;", 29, 2);
        fails(LAND + "a;f0,1900,0,2;", 29, 2);
        fails(LAND + "a;a;a;a;a;a;a;a;n0,1900,0,256;", 43, 2);
    }

    private static void noRoom() {
        fails(LAND + LAND + LAND + LAND + "l", 68, 3);
        fails("ly1700,0,0,0,0,0;y1701,0,0,0,0,0;y1702,0,0,0,0,0;y1703,0,0,0,0,0;y", 65, 3);
        fails(LAND + "a;a;a;a;a;a;a;a;a;", 33, 3);
        String work = "p0,1900,0,0;";
        fails(LAND + work + work + work + work + work + work + "n", 17 + 72, 3);
        fails(LAND + work + work + work + work + work + work + "x", 17 + 72, 1);
        fails(LAND + "a;a;a;a;a;a;a;a;" + work + "a;", 45, 1);
    }

    private static void theFirstFault() {
        fails("ly1699,100,x", 2, 2);
        fails("ly1700,100,x", 7, 2);
        fails("ly17 00,", 2, 2);
        fails("lyx1699", 2, 1);
        fails(LAND + "a1900,1899", 23, 2);
    }

    private static void afterAFault() {
        RightTerms x = Due.read(LAND + "p0,1900,0,0;");
        due.is("fault() before one", x.fault(), 0);
        x.change(0, 2, 1901);
        Due.feed(x, "ly1699");
        due.is("rights() with a fault", x.rights(), -1000102);
        due.is("fault()", x.fault(), 2);
        due.is("count(5): the tape is empty", x.count(5), 0);
        due.is("work(0, 2) stays", x.work(0, 2), 1901);
        due.is("count(4) stays", x.count(4), 1);
        Due.feed(x, LAND);
        due.is("rights() without a fault", x.rights(), 0);
        due.is("fault() is the latest one yet", x.fault(), 2);
        due.is("rights() of nothing", x.rights(), -1000100);
        due.is("fault() anew", x.fault(), 1);
    }

    private static void reads(String text, int works) {
        RightTerms x = new RightTerms();
        Due.feed(x, text);
        due.is("rights() of " + text, x.rights(), works);
        due.is("fault() of " + text, x.fault(), 0);
        due.is("count(5) of " + text, x.count(5), 0);
    }

    private static void fails(String text, int place, int number) {
        RightTerms x = new RightTerms();
        Due.feed(x, text);
        due.is("rights() of " + text, x.rights(), -1000100 - place);
        due.is("fault() of " + text, x.fault(), number);
        due.is("count(0) of " + text, x.count(0), 0);
    }

    private TapeTest() {
    }
}
