/** Promises 5 to 10: undo, enact, repeal, alter, die, change. */
final class DeedsTest {
    private static final Due due = new Due();
    private static final String TEXT = "ly1900,50,60,25,10,0;ly1950,70,71,50,20,8;a1900,1910;a;b0,1880,1890,1;p1,1930,0,0;";

    public static void main(String[] args) {
        enacting();
        repealing();
        altering();
        dying();
        changing();
        undoing();
        due.finish();
    }

    private static void enacting() {
        RightTerms x = Due.read(TEXT);
        due.is("enact, no land -1", x.enact(-1, 2000, 50, 0), Due.BAD);
        due.is("enact, no land 2", x.enact(2, 2000, 50, 0), Due.BAD);
        due.is("enact in the year of the one ahead", x.enact(0, 1900, 50, 0), Due.BAD);
        due.is("enact in 2100", x.enact(0, 2100, 50, 0), Due.BAD);
        due.is("enact with LIFE -1", x.enact(0, 2000, -1, 0), Due.BAD);
        due.is("enact with LIFE 100", x.enact(0, 2000, 100, 0), Due.BAD);
        due.is("enact with FLAGS -1", x.enact(0, 2000, 0, -1), Due.BAD);
        due.is("enact with FLAGS 16", x.enact(0, 2000, 0, 16), Due.BAD);
        due.is("refused: no deed", x.count(4), 0);
        due.is("enact(0, 1901, 99, 15)", x.enact(0, 1901, 99, 15), 1);
        int[] want = {1901, 99, 60, 25, 10, 15};
        for (int what = 0; what < 6; what++) {
            due.is("act(0, 1, " + what + ")", x.act(0, 1, what), want[what]);
        }
        x.alter(0, 1, 2, 61);
        due.is("enact(0, 1902, 0, 0)", x.enact(0, 1902, 0, 0), 2);
        due.is("PUBLIC as the one ahead", x.act(0, 2, 2), 61);
        due.is("enact(0, 2098, 0, 0)", x.enact(0, 2098, 0, 0), 3);
        due.is("enact a fifth", x.enact(0, 2099, 0, 0), Due.FULL);
        due.is("enact a fifth, BAD first", x.enact(0, 2098, 0, 0), Due.BAD);
        due.is("enact in another land", x.enact(1, 2099, 0, 0), 1);
        due.is("count(1)", x.count(1), 6);
    }

    private static void repealing() {
        RightTerms x = Due.read(TEXT);
        due.is("repeal(-1)", x.repeal(-1), Due.BAD);
        due.is("repeal(2)", x.repeal(2), Due.BAD);
        due.is("repeal the only one", x.repeal(0), Due.STATE);
        x.enact(0, 1950, 40, 3);
        x.enact(0, 1970, 41, 4);
        due.is("repeal(0)", x.repeal(0), 2);
        due.is("the last is gone", x.act(0, 2, 0), Due.BAD);
        due.is("the one ahead stays", x.act(0, 1, 1), 40);
        due.is("repeal(0) again", x.repeal(0), 1);
        due.is("repeal(0) a third time", x.repeal(0), Due.STATE);
        due.is("count(4)", x.count(4), 4);
        due.is("undo()", x.undo(), 3);
        due.is("YEAR is back", x.act(0, 1, 0), 1950);
        due.is("FLAGS are back", x.act(0, 1, 5), 3);
        due.is("enact behind what came back", x.enact(0, 1950, 0, 0), Due.BAD);
    }

    private static void altering() {
        RightTerms x = Due.read(TEXT);
        due.is("alter, no land", x.alter(2, 0, 1, 1), Due.BAD);
        due.is("alter, no land -1", x.alter(-1, 0, 1, 1), Due.BAD);
        due.is("alter, no act", x.alter(0, 1, 1, 1), Due.BAD);
        due.is("alter, no act -1", x.alter(0, -1, 1, 1), Due.BAD);
        due.is("alter YEAR", x.alter(0, 0, 0, 1901), Due.BAD);
        due.is("alter which 6", x.alter(0, 0, 6, 1), Due.BAD);
        int[] was = {0, 70, 71, 50, 20, 8};
        int[] most = {0, 99, 99, 99, 50, 15};
        for (int which = 1; which <= 5; which++) {
            due.is("alter to -1, " + which, x.alter(1, 0, which, -1), Due.BAD);
            due.is("alter beyond the most, " + which, x.alter(1, 0, which, most[which] + 1), Due.BAD);
            due.is("alter to the most, " + which, x.alter(1, 0, which, most[which]), was[which]);
            due.is("what it is then, " + which, x.act(1, 0, which), most[which]);
            due.is("alter to 0, " + which, x.alter(1, 0, which, 0), most[which]);
        }
        due.is("count(4)", x.count(4), 10);
        due.is("the other land stays", x.act(0, 0, 1), 50);
    }

    private static void dying() {
        RightTerms x = Due.read(TEXT);
        due.is("die, no author", x.die(2, 1900, 1900), Due.BAD);
        due.is("die, no author -1", x.die(-1, 1900, 1900), Due.BAD);
        due.is("die from 1499", x.die(0, 1499, 1900), Due.BAD);
        due.is("die to 2100", x.die(0, 1900, 2100), Due.BAD);
        due.is("die TO ahead of FROM", x.die(0, 1900, 1899), Due.BAD);
        due.is("die(0, 0, 1900)", x.die(0, 0, 1900), Due.BAD);
        due.is("die(0, 1900, 0)", x.die(0, 1900, 0), Due.BAD);
        due.is("refused: no deed", x.count(4), 0);
        due.is("die as it was", x.die(0, 1900, 1910), 0);
        due.is("a deed nonetheless", x.count(4), 1);
        due.is("die, another TO", x.die(0, 1900, 1911), 1);
        due.is("die, another FROM", x.die(0, 1500, 1911), 1);
        due.is("author(0, 0)", x.author(0, 0), 1500);
        due.is("author(0, 1)", x.author(0, 1), 1911);
        due.is("lives, as it did", x.die(1, 0, 0), 0);
        due.is("dies", x.die(1, 2099, 2099), 1);
        due.is("lives again", x.die(1, 0, 0), 1);
        due.is("author(1, 0)", x.author(1, 0), 0);
        due.is("undo()", x.undo(), 5);
        due.is("author(1, 1)", x.author(1, 1), 2099);
    }

    private static void changing() {
        RightTerms x = Due.read(TEXT);
        due.is("change, no work", x.change(2, 1, 0), Due.BAD);
        due.is("change, no work -1", x.change(-1, 1, 0), Due.BAD);
        due.is("change KIND", x.change(0, 0, 1), Due.BAD);
        due.is("change which 5", x.change(0, 5, 1), Due.BAD);
        due.is("change ORIGIN to none", x.change(0, 1, 2), Due.BAD);
        due.is("change ORIGIN to -1", x.change(0, 1, -1), Due.BAD);
        due.is("change MADE to 1499", x.change(0, 2, 1499), Due.BAD);
        due.is("change MADE behind PUBLISHED", x.change(0, 2, 1891), Due.BAD);
        due.is("change PUBLISHED ahead of MADE", x.change(0, 3, 1879), Due.BAD);
        due.is("change PUBLISHED to 2100", x.change(0, 3, 2100), Due.BAD);
        due.is("change PUBLISHED to -1", x.change(0, 3, -1), Due.BAD);
        due.is("change AUTHORS of a book to 0", x.change(0, 4, 0), Due.BAD);
        due.is("change AUTHORS to one not told", x.change(0, 4, 4), Due.BAD);
        due.is("change AUTHORS to -1", x.change(0, 4, -1), Due.BAD);
        due.is("refused: no deed", x.count(4), 0);
        due.is("change ORIGIN", x.change(0, 1, 1), 0);
        due.is("change MADE to PUBLISHED", x.change(0, 2, 1890), 1880);
        due.is("change PUBLISHED to MADE", x.change(0, 3, 1890), 1890);
        due.is("change PUBLISHED to 2099", x.change(0, 3, 2099), 1890);
        due.is("change PUBLISHED to 0", x.change(0, 3, 0), 2099);
        due.is("change MADE of one not published", x.change(0, 2, 2099), 1890);
        due.is("change MADE to 2100", x.change(0, 2, 2100), Due.BAD);
        due.is("change PUBLISHED ahead of that", x.change(0, 3, 2098), Due.BAD);
        due.is("change AUTHORS", x.change(0, 4, 3), 1);
        due.is("change AUTHORS of a picture", x.change(1, 4, 2), 0);
        due.is("change AUTHORS of a picture to 0", x.change(1, 4, 0), 2);
        int[] want = {1, 1, 2099, 0, 3};
        for (int what = 0; what < 5; what++) {
            due.is("work(0, " + what + ")", x.work(0, what), want[what]);
        }
    }

    private static void undoing() {
        RightTerms x = Due.read(TEXT);
        due.is("undo() of nothing", x.undo(), Due.STATE);
        for (int life = 1; life <= 13; life++) {
            due.is("alter to " + life, x.alter(0, 0, 1, life), life == 1 ? 50 : life - 1);
            due.is("count(4) behind " + life, x.count(4), Math.min(life, 12));
        }
        for (int left = 11; left >= 0; left--) {
            due.is("undo() to " + left, x.undo(), left);
            due.is("LIFE then", x.act(0, 0, 1), left + 1);
        }
        due.is("the oldest is forgotten", x.undo(), Due.STATE);

        x.enact(1, 1960, 5, 5);
        x.die(1, 1950, 1960);
        x.change(0, 4, 2);
        x.change(0, 3, 0);
        x.alter(1, 1, 3, 9);
        x.repeal(1);
        for (int left = 5; left >= 0; left--) {
            due.is("undo() of deeds of all sorts", x.undo(), left);
        }
        due.is("count(1)", x.count(1), 2);
        due.is("author(1, 0)", x.author(1, 0), 0);
        due.is("work(0, 4)", x.work(0, 4), 1);
        due.is("work(0, 3)", x.work(0, 3), 1890);
        x.alter(0, 0, 1, 77);
        due.is("a deed behind undone ones", x.count(4), 1);
        due.is("undo() of that", x.undo(), 0);
        due.is("LIFE as before", x.act(0, 0, 1), 1);
    }

    private DeedsTest() {
    }
}
