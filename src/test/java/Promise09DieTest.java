/** Promise 9: die. */
final class Promise09DieTest {
    private static final Due due = new Due("Promise 9");

    public static void main(String[] args) {
        otherOnes();
        years();
        lives();
        authors();
        due.finish();
    }

    private static void dies(int author, int from, int to, int want) {
        Subject x = Subject.busy();
        due.is(x, want, "die", author, from, to);
        due.row(x, 0, new int[] {from, to}, "author", author);
        due.row(x, 0, author == 0 ? new int[] {0, 0} : new int[] {1900, 1910}, "author", 1 - author);
        due.is(x, 3, "count", 4);
    }

    private static void otherOnes() {
        due.sentence("1, if the FROM, TO are other ones than they were, else 0");
        dies(0, 1900, 1910, 0);
        dies(0, 1900, 1911, 1);
        dies(0, 1900, 1909, 1);
        dies(0, 1901, 1910, 1);
        dies(0, 1899, 1910, 1);
        dies(0, 1910, 1910, 1);
        dies(0, 1950, 1960, 1);
        due.sentence("than they were: each time anew");
        Subject x = Subject.busy();
        due.is(x, 1, "die", 0, 1950, 1960);
        due.is(x, 0, "die", 0, 1950, 1960);
        due.is(x, 1, "die", 0, 1900, 1910);
        due.is(x, 5, "count", 4);
    }

    private static void years() {
        due.sentence("An AUTHOR died from FROM to TO (1500 to 2099 both, TO not less)");
        dies(0, 1500, 1500, 1);
        dies(0, 1500, 2099, 1);
        dies(0, 2099, 2099, 1);
        dies(1, 1900, 1900, 1);
        dies(1, 2098, 2099, 1);
        int[][] unfit = {
            {1499, 1500}, {1499, 1499}, {2099, 2100}, {2100, 2100}, {1900, 1899}, {1501, 1500}, {2099, 2098}, {1900, 2100},
            {1900, 1499}, {-1, -1}, {1, 1}, {-1, 1900}, {1900, -1}, {Subject.MIN, 1900}, {1900, Subject.MAX},
            {Subject.MIN, Subject.MAX}, {Subject.MAX, Subject.MIN}};
        for (int[] row : unfit) {
            due.bad("die", 0, row[0], row[1]);
            due.bad("die", 1, row[0], row[1]);
        }
    }

    private static void lives() {
        due.sentence("(0, 0: LIVES)");
        dies(0, 0, 0, 1);
        dies(1, 0, 0, 0);
        dies(1, 1900, 1910, 1);
        due.sentence("0, 0: both of them");
        due.bad("die", 0, 0, 1900);
        due.bad("die", 0, 1900, 0);
        due.bad("die", 1, 0, 1);
        due.bad("die", 1, 0, 2099);
        due.bad("die", 1, 0, -1);
        due.bad("die", 1, -1, 0);
    }

    private static void authors() {
        due.sentence("BAD: there is no such AUTHOR");
        for (int author : new int[] {-1, 2, 8, Subject.MIN, Subject.MAX}) {
            due.bad("die", author, 1900, 1900);
            due.bad("die", author, 0, 0);
        }
        due.leaves(Subject::new, Subject.BAD, "die", 0, 0, 0);
        due.leaves(() -> Subject.read(Subject.LAND), Subject.BAD, "die", 0, 0, 0);
        Subject x = Subject.full();
        due.is(x, 1, "die", 7, 1900, 1901);
        due.row(x, 0, new int[] {1900, 1901}, "author", 7);
        due.row(x, 0, new int[] {0, 0}, "author", 6);
        due.is(x, Subject.BAD, "die", 8, 1900, 1901);
        due.is(x, 12, "count", 4);
    }

    private Promise09DieTest() {
    }
}
