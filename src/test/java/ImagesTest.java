/** Promises 23 to 25: image, restore, count. */
final class ImagesTest {
    private static final Due due = new Due();

    public static void main(String[] args) {
        refusals();
        restoring();
        counting();
        due.finish();
    }

    private static void refusals() {
        RightTerms x = new RightTerms();
        due.is("image(0) without RIGHTS", x.image(0), Due.STATE);
        due.is("image(-1)", x.image(-1), Due.BAD);
        due.is("image(2)", x.image(2), Due.BAD);
        due.is("restore(-1)", x.restore(-1), Due.BAD);
        due.is("restore(2)", x.restore(2), Due.BAD);
        due.is("restore(0), none kept", x.restore(0), Due.STATE);
        RightTerms y = Due.read("ly1700,0,0,0,0,0;");
        due.is("image(0)", y.image(0), 1);
        due.is("restore(1), the other was kept", y.restore(1), Due.STATE);
    }

    private static void restoring() {
        RightTerms x = Due.read("ly1900,50,60,25,10,0;a1900,1910;b0,1880,0,1;");
        x.alter(0, 0, 1, 51);
        due.is("image(0)", x.image(0), 1);
        due.is("DEEDS stay behind an image", x.count(4), 1);
        x.enact(0, 1950, 70, 0);
        x.die(0, 0, 0);
        x.change(0, 2, 1890);
        due.is("image(1)", x.image(1), 1);
        Due.feed(x, "ly1700,0,0,0,0,0;ly1700,0,0,0,0,0;p1,1900,0,0;n1,1900,0,0;");
        due.is("rights()", x.rights(), 2);
        x.alter(0, 0, 1, 9);
        Due.feed(x, "ly");
        x.rights();
        Due.feed(x, "lyx");
        due.is("restore(0)", x.restore(0), 1);
        due.is("no DEED can be undone", x.undo(), Due.STATE);
        due.is("count(0)", x.count(0), 1);
        due.is("count(1)", x.count(1), 1);
        due.is("count(2)", x.count(2), 1);
        due.is("count(3)", x.count(3), 1);
        due.is("LIFE", x.act(0, 0, 1), 51);
        due.is("FROM", x.author(0, 0), 1900);
        due.is("MADE", x.work(0, 2), 1880);
        due.is("the tape stays", x.count(5), 3);
        due.is("the fault stays", x.fault(), 1);
        x.alter(0, 0, 1, 3);
        due.is("restore(1)", x.restore(1), 1);
        due.is("ACTS", x.count(1), 2);
        due.is("lives", x.author(0, 0), 0);
        due.is("MADE then", x.work(0, 2), 1890);
        due.is("count(4)", x.count(4), 0);
        due.is("restore(0) again", x.restore(0), 1);
        due.is("an image is not what is done later", x.act(0, 0, 1), 51);
        x.alter(0, 0, 1, 4);
        due.is("image(0) anew", x.image(0), 1);
        x.undo();
        due.is("undo() behind an image", x.act(0, 0, 1), 51);
        x.restore(0);
        due.is("the image anew", x.act(0, 0, 1), 4);
    }

    private static void counting() {
        RightTerms x = Due.read("ly1900,0,0,0,0,0;y1901,0,0,0,0,0;ly1900,0,0,0,0,0;ly1900,0,0,0,0,0;a;a;p0,1900,0,0;");
        x.alter(0, 0, 1, 5);
        x.feed('l');
        x.feed('y');
        x.feed('y');
        x.die(0, 0, 0);
        x.die(0, 0, 0);
        x.die(0, 0, 0);
        int[] want = {3, 4, 2, 1, 4, 3};
        for (int what = 0; what < 6; what++) {
            due.is("count(" + what + ")", x.count(what), want[what]);
        }
        x.rights();
        Due.feed(x, "ly1900,0,0,0,0,0;");
        x.rights();
        due.is("count(1) of fewer lands", x.count(1), 1);
        due.is("count(-1)", x.count(-1), Due.BAD);
        due.is("count(6)", x.count(6), Due.BAD);
    }

    private ImagesTest() {
    }
}
