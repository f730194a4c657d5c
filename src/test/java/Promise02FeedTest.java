/** Promise 2: feed, and the tape's bounds of "Terms", part 1. */
final class Promise02FeedTest {
    private static final Due due = new Due("Promise 2");
    /** 125 bytes: a land with 4 acts, every number with 4 figures. */
    private static final String WIDE = "ly1700,0001,0002,0003,0004,0005;y1701,0006,0007,0008,0009,0010;"
            + "y1702,0000,0000,0000,0000,0000;y1703,0099,0098,0097,0050,0015;";

    public static void main(String[] args) {
        whatIsTaken();
        whatIsBad();
        theTapesRoom();
        aFullTapeIsRead();
        due.finish();
    }

    private static void whatIsTaken() {
        due.sentence("A byte (0 to 255) comes behind the tape: how many it has.");
        for (int first : new int[] {0, 128}) {
            Subject x = new Subject();
            for (int i = 0; i < 128; i++) {
                due.is(x, i + 1, "feed", first + i);
                due.is(x, i + 1, "count", 5);
            }
        }
        due.sentence("The tape, empty then, is read");
        Subject x = new Subject().feed("lyab");
        due.is(x, 5, "feed", 255);
        x.call("rights");
        due.is(x, 0, "count", 5);
        due.is(x, 1, "feed", 0);
        due.sentence("A byte comes behind the tape: in the order of the calls");
        x = new Subject();
        due.is(x.feed(Subject.LAND), 0, "rights");
        due.is(x, 1700, "act", 0, 0, 0);
    }

    private static void whatIsBad() {
        due.sentence("A byte (0 to 255) .. BAD");
        for (int letter : new int[] {-1, 256, -255, 256 + 'l', Subject.MIN, Subject.MAX}) {
            due.bad("feed", letter);
            due.leaves(Subject::new, Subject.BAD, "feed", letter);
        }
    }

    private static Subject with(int bytes) {
        return new Subject().times(bytes, "feed", 'l');
    }

    private static void theTapesRoom() {
        due.sentence("THE TAPE has at most 250 bytes; FULL");
        due.is(with(248), 249, "feed", 'l');
        due.is(with(249), 250, "feed", 0);
        due.is(with(249), 250, "feed", 255);
        due.leaves(() -> with(250), Subject.FULL, "feed", 'l');
        due.leaves(() -> with(250), Subject.FULL, "feed", 0);
        due.leaves(() -> with(250), Subject.FULL, "feed", 255);
        due.sentence("the first of these that fits: BAD, STATE, FULL");
        due.leaves(() -> with(250), Subject.BAD, "feed", -1);
        due.leaves(() -> with(250), Subject.BAD, "feed", 256);
        due.sentence("The tape, empty then, is read");
        Subject x = with(250);
        due.is(x, Subject.FULL, "feed", 'l');
        due.is(x, Subject.FULL, "feed", 'l');
        due.is(x, 250, "count", 5);
        due.is(x, Subject.FAULT - 1, "rights");
        due.is(x, 0, "count", 5);
        due.is(x, 1, "feed", 'l');
    }

    private static void aFullTapeIsRead() {
        due.sentence("THE TAPE has at most 250 bytes: all of them are read");
        due.same("the length of the text", 2 * WIDE.length(), 250);
        Subject x = new Subject().feed(WIDE + WIDE);
        due.is(x, 250, "count", 5);
        due.is(x, Subject.FULL, "feed", 'l');
        due.is(x, 0, "rights");
        due.is(x, 2, "count", 0);
        due.is(x, 8, "count", 1);
        due.row(x, 0, new int[] {1700, 1, 2, 3, 4, 5}, "act", 0, 0);
        due.row(x, 0, new int[] {1701, 6, 7, 8, 9, 10}, "act", 1, 1);
        due.row(x, 0, new int[] {1703, 99, 98, 97, 50, 15}, "act", 1, 3);
        due.is(x, 1, "feed", 'l');
        due.sentence("the end: how many bytes there are");
        String cut = WIDE + WIDE.substring(0, 94) + "a1900,1900;a1900,1900;";
        due.is(new Subject().feed(cut + "a;a;a;a;a"), Subject.FAULT - 250, "rights");
        due.is(new Subject().feed(cut + "a1900,190"), Subject.FAULT - 247, "rights");
        due.is(new Subject().feed(cut + "p0,1500,0"), Subject.FAULT - 250, "rights");
        due.is(new Subject().feed(cut + "a;a;a;a;;"), Subject.FAULT - 249, "rights");
    }

    private Promise02FeedTest() {
    }
}
