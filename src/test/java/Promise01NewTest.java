/** Promise 1: a new object. */
final class Promise01NewTest {
    private static final Due due = new Due("Promise 1");

    public static void main(String[] args) {
        noRights();
        refusesAll();
        eachByItself();
        due.finish();
    }

    private static void noRights() {
        due.sentence("No RIGHTS.");
        Subject x = new Subject();
        due.row(x, 0, new int[] {0, 0, 0, 0, 0, 0}, "count");
        due.sentence("0 before one");
        due.is(x, 0, "fault");
        due.sentence("the end: how many bytes there are");
        due.is(x, Subject.FAULT, "rights");
        due.is(x, 1, "fault");
        due.sentence("What is refused changes nothing.");
        due.row(x, 0, new int[] {0, 0, 0, 0, 0, 0}, "count");
    }

    private static void refuses(int want, String name, int... args) {
        due.leaves(Subject::new, want, name, args);
    }

    private static void refusesAll() {
        due.sentence("BAD (.. there is no such thing)");
        refuses(Subject.BAD, "enact", 0, 2000, 50, 0);
        refuses(Subject.BAD, "repeal", 0);
        refuses(Subject.BAD, "alter", 0, 0, 1, 1);
        refuses(Subject.BAD, "die", 0, 1900, 1900);
        refuses(Subject.BAD, "die", 0, 0, 0);
        refuses(Subject.BAD, "change", 0, 1, 0);
        refuses(Subject.BAD, "act", 0, 0, 0);
        for (int what = 0; what < 4; what++) {
            refuses(Subject.BAD, "author", 0, what);
        }
        refuses(Subject.BAD, "work", 0, 0);
        refuses(Subject.BAD, "as", 0, 0);
        refuses(Subject.BAD, "inForce", 0, 1900);
        refuses(Subject.BAD, "term", 0, 0, 0, 0);
        refuses(Subject.BAD, "free", 0, 0, 0);
        refuses(Subject.BAD, "isProtected", 0, 0, 1900);
        refuses(Subject.BAD, "span", 0, 0, 0, 0);
        refuses(Subject.BAD, "everywhere", 0, 0);
        refuses(Subject.BAD, "longer", 0, 0, 0);
        due.sentence("STATE (as told)");
        refuses(Subject.STATE, "undo");
        refuses(Subject.STATE, "next", 1500, 0, 0);
        for (int k = 0; k < 2; k++) {
            refuses(Subject.STATE, "image", k);
            refuses(Subject.STATE, "restore", k);
        }
        due.sentence("none at first");
        due.same("what is told of it", new Subject().rights(), "");
    }

    private static void eachByItself() {
        due.sentence("A new object");
        Subject other = Subject.busy();
        Subject x = new Subject();
        due.row(x, 0, new int[] {0, 0, 0, 0, 0, 0}, "count");
        due.is(x, 0, "fault");
        due.is(x, Subject.STATE, "restore", 0);
        due.is(x, 1, "feed", 'l');
        due.same("the other one", other.whole(), Subject.busy().whole());
    }

    private Promise01NewTest() {
    }
}
