/** Promise 3: rights, with the text's bounds and faults of "Terms", part 1. */
final class Promise03RightsTest {
    private static final Due due = new Due("Promise 3");
    private static final String LAND = Subject.LAND;
    private static final String FIGURES = "0123456789";
    private static final String KINDS = "bspfn";

    public static void main(String[] args) {
        theLeastTexts();
        everyByteInEveryPlace();
        everyEnd();
        figures();
        yearsOfActs();
        otherNumbersOfActs();
        authors();
        origins();
        madeAndPublished();
        setsOfAuthors();
        room();
        theFirstToken();
        theLeastFault();
        aFaultLeavesAll();
        inPlaceOfThoseBefore();
        due.finish();
    }

    private static Subject reads(String text, int works) {
        Subject x = new Subject().feed(text);
        due.on(text);
        due.is(x, works, "rights");
        due.is(x, 0, "fault");
        due.is(x, 0, "count", 5);
        return x;
    }

    private static void fails(String text, int place, int number) {
        Subject x = new Subject().feed(text);
        due.on(text);
        due.is(x, Subject.FAULT - place, "rights");
        due.is(x, number, "fault");
        due.is(x, 0, "count", 5);
        due.is(x, 0, "count", 0);
    }

    private static void theLeastTexts() {
        due.sentence("rights: land { land } { author } { work }");
        reads(LAND, 0);
        reads(LAND + "a;", 0);
        reads(LAND + "p0,1900,0,0;", 1);
        reads(LAND + "a;n0,1900,0,0;", 1);
        reads(LAND + LAND, 0);
        reads(LAND + "y1701,0,0,0,0,0;" + LAND + "y1701,0,0,0,0,0;a;a;b1,1900,0,3;s0,1900,0,1;", 2);
        fails("", 0, 1);
        fails("a;", 0, 1);
        fails("p0,1900,0,0;", 0, 1);
        due.sentence("land: l act { act }");
        fails("l", 1, 1);
        fails("ll", 1, 1);
        fails("la;", 1, 1);
        fails("y1700,0,0,0,0,0;", 0, 1);
        due.sentence("{ author } behind { land }, { work } behind { author }");
        fails(LAND + "a;l", 19, 1);
        fails(LAND + "a;y", 19, 1);
        fails(LAND + "p0,1900,0,0;a", 29, 1);
        fails(LAND + "p0,1900,0,0;l", 29, 1);
        fails(LAND + "p0,1900,0,0;y", 29, 1);
    }

    /** Where the text stands, what can stand there, and that each of the 256 bytes is told so. */
    private static void place(String ahead, String fitting) {
        boolean behindNumber = !ahead.isEmpty() && FIGURES.indexOf(ahead.charAt(ahead.length() - 1)) >= 0;
        for (int letter = 0; letter < 256; letter++) {
            // A figure behind a number is one more of it.
            if (behindNumber && FIGURES.indexOf(letter) >= 0) {
                continue;
            }
            Subject x = new Subject().feed(ahead);
            x.call("feed", letter);
            boolean misplaced = x.call("rights") == Subject.FAULT - ahead.length() && x.call("fault") == 1;
            due.same(ahead + ": misplaced is " + letter, misplaced ? 1 : 0, fitting.indexOf(letter) >= 0 ? 0 : 1);
        }
    }

    private static void everyByteInEveryPlace() {
        due.sentence("TOKENS: letters a to z, NUMBERS, SIGNS , and ; nothing else; 1 it cannot stand there, or is none");
        place("", "l");
        place("l", "y");
        String act = "ly1700";
        place("ly", FIGURES);
        for (int i = 0; i < 5; i++) {
            place(act, ",");
            place(act + ",", FIGURES);
            act += ",0";
        }
        place(act, ";");
        place(act + ";", "lyabspfn");
        place(act + ";" + act + ";", "lyabspfn");
        place(LAND + "a", FIGURES + ";");
        place(LAND + "a1900", ",");
        place(LAND + "a1900,", FIGURES);
        place(LAND + "a1900,1900", ";");
        place(LAND + "a;", "abspfn");
        place(LAND + "a1900,1900;", "abspfn");
        for (int i = 0; i < 5; i++) {
            String work = LAND + "a;" + KINDS.charAt(i);
            place(work, FIGURES);
            place(work + "0", ",");
            place(work + "0,", FIGURES);
            place(work + "0,1900", ",");
            place(work + "0,1900,", FIGURES);
            place(work + "0,1900,0", ",");
            place(work + "0,1900,0,", FIGURES);
            place(work + "0,1900,0,1", ";");
            place(work + "0,1900,0,1;", "bspfn");
        }
    }

    private static void everyEnd() {
        due.sentence("the end: how many bytes there are");
        String text = LAND + "y1800,1,2,3,4,5;" + LAND + "a;a1900,1910;b1,1900,1950,3;n0,1900,0,0;";
        int works = 0;
        for (int end = 1; end <= text.length(); end++) {
            char last = text.charAt(end - 1);
            boolean inNumber = FIGURES.indexOf(last) >= 0 && FIGURES.indexOf(text.charAt(end)) >= 0;
            if (inNumber) {
                continue;
            }
            String cut = text.substring(0, end);
            works += last == ';' && end > 63 ? 1 : 0;
            if (last == ';') {
                reads(cut, works);
            } else {
                fails(cut, end, 1);
            }
        }
        due.same("works in all", works, 2);
        due.sentence("the end, in a NUMBER: that one is judged as it stands");
        fails("ly170", 2, 2);
        fails("ly1700,9", 8, 1);
        fails(LAND + "a190", 18, 2);
        fails(LAND + "p0,1900,1", 25, 2);
    }

    private static void figures() {
        due.sentence("NUMBERS (figures, 4 at most)");
        due.is(reads("ly1700,0,00,000,0000,0001;", 0), 1, "act", 0, 0, 5);
        due.is(reads("ly1700,0099,099,99,0050,0015;", 0), 99, "act", 0, 0, 1);
        reads(LAND + "a;p0000,1900,0000,0001;", 1);
        due.sentence("a run of five figures or more, at its first");
        fails("ly01700,0,0,0,0,0;", 2, 1);
        fails("ly17000,0,0,0,0,0;", 2, 1);
        fails("ly1700,00000,0,0,0,0;", 7, 1);
        fails("ly1700,0,0,0,0,00015;", 15, 1);
        fails("ly1700,0,0,0,0,0000000000000000000000000000000000000001;", 15, 1);
        fails("ly1700,4294967296,0,0,0,0;", 7, 1);
        fails(LAND + "a01900,1900;", 18, 1);
        fails(LAND + "a1900,01900;", 23, 1);
        fails(LAND + "a1900,1900;p00000,1900,0,0;", 29, 1);
        fails(LAND + "p0,01900,0,0;", 20, 1);
        fails(LAND + "p0,1900,00000,0;", 25, 1);
        fails(LAND + "p0,1900,0,00000;", 27, 1);
        due.sentence("it is none: at its first, where a number cannot stand, too");
        fails("00000", 0, 1);
        fails("l12345", 1, 1);
        fails(LAND + "12345", 17, 1);
    }

    private static void yearsOfActs() {
        due.sentence("act: y YEAR (1700 to 2099 ..");
        due.is(reads("ly1700,0,0,0,0,0;", 0), 1700, "act", 0, 0, 0);
        due.is(reads("ly2099,0,0,0,0,0;", 0), 2099, "act", 0, 0, 0);
        for (String year : new String[] {"0", "1", "1699", "2100", "9999"}) {
            fails("ly" + year + ",0,0,0,0,0;", 2, 2);
            fails(LAND + "ly" + year + ",0,0,0,0,0;", 19, 2);
            fails(LAND + "y" + year + ",0,0,0,0,0;", 18, 2);
        }
        due.sentence(".. more than that of the act ahead in this land)");
        due.is(reads(LAND + "y1701,0,0,0,0,0;", 0), 1701, "act", 0, 1, 0);
        due.is(reads("ly2098,0,0,0,0,0;y2099,0,0,0,0,0;", 0), 2099, "act", 0, 1, 0);
        fails(LAND + "y1700,0,0,0,0,0;", 18, 2);
        fails("ly1900,0,0,0,0,0;y1899,0,0,0,0,0;", 18, 2);
        fails("ly2099,0,0,0,0,0;y2099,0,0,0,0,0;", 18, 2);
        fails("ly1900,0,0,0,0,0;y1950,0,0,0,0,0;y1925,0,0,0,0,0;", 34, 2);
        fails("ly1900,0,0,0,0,0;y1950,0,0,0,0,0;y1950,0,0,0,0,0;", 34, 2);
        fails("ly1900,0,0,0,0,0;y1950,0,0,0,0,0;y1960,0,0,0,0,0;y1960,0,0,0,0,0;", 50, 2);
        due.sentence("in this land: another one begins anew");
        due.is(reads("ly2099,0,0,0,0,0;ly1700,0,0,0,0,0;", 0), 1700, "act", 1, 0, 0);
        reads("ly1900,0,0,0,0,0;y1901,0,0,0,0,0;ly1900,0,0,0,0,0;y1901,0,0,0,0,0;", 0);
    }

    private static void otherNumbersOfActs() {
        due.sentence("LIFE, PUBLIC, PICTURES, LATE, FLAGS: 0 to 99; 0 to 99; 0 to 99; 0 to 50; 0 to 15");
        int[] most = {99, 99, 99, 50, 15};
        for (int which = 0; which < 5; which++) {
            for (String land : new String[] {"l", LAND, LAND + "l"}) {
                StringBuilder ahead = new StringBuilder(land).append("y1800,");
                StringBuilder behind = new StringBuilder();
                ahead.append("0,".repeat(which));
                behind.append(",0".repeat(4 - which)).append(';');
                Subject x = reads(ahead.toString() + most[which] + behind, 0);
                int lands = x.call("count", 0);
                int act = land.equals(LAND) ? 1 : 0;
                due.is(x, most[which], "act", lands - 1, act, which + 1);
                due.is(reads(ahead + "0" + behind, 0), 0, "act", lands - 1, act, which + 1);
                fails(ahead.toString() + (most[which] + 1) + behind, ahead.length(), 2);
                fails(ahead + "9999" + behind, ahead.length(), 2);
            }
        }
        Subject x = reads("ly1800,99,98,97,50,15;", 0);
        due.row(x, 0, new int[] {1800, 99, 98, 97, 50, 15}, "act", 0, 0);
    }

    private static void authors() {
        due.sentence("author: a FROM , TO ; (1500 to 2099 both, TO not less)");
        String[] fit = {"1500,1500", "1500,2099", "2099,2099", "1900,1900", "1900,1901", "1900,2099"};
        for (String years : fit) {
            Subject x = reads(LAND + "a" + years + ";", 0);
            due.is(x, Integer.parseInt(years.substring(0, 4)), "author", 0, 0);
            due.is(x, Integer.parseInt(years.substring(5)), "author", 0, 1);
        }
        for (String from : new String[] {"0", "1499", "2100", "9999"}) {
            fails(LAND + "a" + from + "," + from + ";", 18, 2);
            fails(LAND + "a" + from + ",1900;", 18, 2);
        }
        for (String to : new String[] {"0", "1499", "1500", "1899", "2100", "9999"}) {
            fails(LAND + "a1900," + to + ";", 23, 2);
        }
        fails(LAND + "a1500,1499;", 23, 2);
        fails(LAND + "a2099,2098;", 23, 2);
        fails(LAND + "a2099,2100;", 23, 2);
        due.sentence("or a ; (lives)");
        Subject x = reads(LAND + "a1900,1910;a;a1901,1911;", 0);
        due.row(x, 0, new int[] {1900, 1910}, "author", 0);
        due.row(x, 0, new int[] {0, 0}, "author", 1);
        due.row(x, 0, new int[] {1901, 1911}, "author", 2);
        fails(LAND + "a,;", 18, 1);
        fails(LAND + "a1900;", 22, 1);
        fails(LAND + "a1900,;", 23, 1);
        due.sentence("RIGHTS that are read stand in place: one who lives where one was dead");
        x.feed(LAND + "a1900,1910;a1900,1910;");
        x.call("rights");
        due.is(x.feed(LAND + "a;a;"), 0, "rights");
        due.row(x, 0, new int[] {0, 0}, "author", 0);
        due.row(x, 0, new int[] {0, 0}, "author", 1);
    }

    private static void origins() {
        due.sentence("ORIGIN: a land that was told");
        for (int lands = 1; lands <= 4; lands++) {
            String text = LAND.repeat(lands);
            for (int origin = 0; origin < lands; origin++) {
                due.is(reads(text + "p" + origin + ",1900,0,0;", 1), origin, "work", 0, 1);
            }
            fails(text + "p" + lands + ",1900,0,0;", text.length() + 1, 2);
            fails(text + "p9999,1900,0,0;", text.length() + 1, 2);
        }
        due.sentence("letters b BOOK, s SONG, p PICTURE, f FILM, n NAMELESS");
        for (int i = 0; i < 5; i++) {
            due.is(reads(LAND + "a;" + KINDS.charAt(i) + "0,1900,0,1;", 1), i + 1, "work", 0, 0);
        }
    }

    private static void madeAndPublished() {
        due.sentence("MADE: 1500 to 2099");
        for (int i = 0; i < 5; i++) {
            String work = LAND + "a;" + KINDS.charAt(i) + "0,";
            due.is(reads(work + "1500,0,1;", 1), 1500, "work", 0, 2);
            due.is(reads(work + "2099,0,1;", 1), 2099, "work", 0, 2);
            for (String made : new String[] {"0", "1499", "2100", "9999"}) {
                fails(work + made + ",0,1;", 22, 2);
            }
            due.sentence("PUBLISHED 0: not published, or a year from MADE to 2099");
            due.is(reads(work + "1900,0,1;", 1), 0, "work", 0, 3);
            due.is(reads(work + "1900,1900,1;", 1), 1900, "work", 0, 3);
            due.is(reads(work + "1900,2099,1;", 1), 2099, "work", 0, 3);
            due.is(reads(work + "2099,2099,1;", 1), 2099, "work", 0, 3);
            due.is(reads(work + "1500,1500,1;", 1), 1500, "work", 0, 3);
            for (String published : new String[] {"1", "1499", "1899", "2100", "9999"}) {
                fails(work + "1900," + published + ",1;", 27, 2);
            }
            fails(work + "2099,2098,1;", 27, 2);
            fails(work + "1500,1499,1;", 27, 2);
        }
        due.sentence("PUBLISHED from MADE on, of this WORK, not of one before");
        reads(LAND + "p0,1900,1950,0;p0,1850,1860,0;", 2);
        reads(LAND + "p0,1900,1900,0;p0,1950,1960,0;", 2);
        fails(LAND + "p0,1800,1950,0;p0,1900,1850,0;", 40, 2);
        Subject x = Subject.read(LAND + "p0,1500,1500,0;");
        due.is(x.feed(LAND + "p0,2099,2099,0;"), 1, "rights");
    }

    private static void setsOfAuthors() {
        due.sentence("a set of authors that were told; 0 to 255");
        for (int authors = 1; authors <= 8; authors++) {
            String text = LAND + "a;".repeat(authors);
            int all = (1 << authors) - 1;
            for (int i = 0; i < 5; i++) {
                String work = text + KINDS.charAt(i) + "0,1900,0,";
                due.is(reads(work + all + ";", 1), all, "work", 0, 4);
                due.is(reads(work + "1;", 1), 1, "work", 0, 4);
                due.is(reads(work + (1 << authors - 1) + ";", 1), 1 << authors - 1, "work", 0, 4);
                fails(work + (all + 1) + ";", work.length(), 2);
                fails(work + "256;", work.length(), 2);
                fails(work + "9999;", work.length(), 2);
            }
        }
        due.sentence("not 0 but for p, n");
        for (String authors : new String[] {"", "a;", "a;a;a;a;a;a;a;a;"}) {
            String text = LAND + authors;
            int at = text.length() + 10;
            due.is(reads(text + "p0,1900,0,0;", 1), 0, "work", 0, 4);
            due.is(reads(text + "n0,1900,0,0;", 1), 0, "work", 0, 4);
            fails(text + "b0,1900,0,0;", at, 2);
            fails(text + "s0,1900,0,0;", at, 2);
            fails(text + "f0,1900,0,0;", at, 2);
        }
        due.sentence("a set of authors that were told: none was");
        for (int i = 0; i < 5; i++) {
            fails(LAND + KINDS.charAt(i) + "0,1900,0,1;", 27, 2);
        }
    }

    private static void room() {
        due.sentence("LANDS (4 at most); 3 a land more than there is room for (its letter)");
        due.is(reads(LAND.repeat(3), 0), 3, "count", 0);
        due.is(reads(LAND.repeat(4), 0), 4, "count", 0);
        fails(LAND.repeat(5), 68, 3);
        fails(LAND.repeat(4) + "l", 68, 3);
        fails(LAND.repeat(4) + "lx", 68, 3);
        due.sentence("ACTS of each (4 at most); 3 an act more");
        String acts = "ly1700,0,0,0,0,0;y1701,0,0,0,0,0;y1702,0,0,0,0,0;";
        due.is(reads(acts, 0), 3, "count", 1);
        due.is(reads(acts + "y1703,0,0,0,0,0;", 0), 4, "count", 1);
        fails(acts + "y1703,0,0,0,0,0;y1704,0,0,0,0,0;", 65, 3);
        fails(acts + "y1703,0,0,0,0,0;y", 65, 3);
        fails(acts + "y1703,0,0,0,0,0;y1,", 65, 3);
        due.is(reads(acts + "y1703,0,0,0,0,0;" + acts + "y1703,0,0,0,0,0;", 0), 8, "count", 1);
        fails(acts + "y1703,0,0,0,0,0;" + acts + "y1703,0,0,0,0,0;y", 130, 3);
        due.sentence("AUTHORS (8 at most); 3 an author more");
        due.is(reads(LAND + "a;".repeat(8), 0), 8, "count", 2);
        fails(LAND + "a;".repeat(9), 33, 3);
        fails(LAND + "a;".repeat(8) + "a", 33, 3);
        fails(LAND + "a1900,1900;".repeat(8) + "a1900,1900;", 105, 3);
        due.sentence("WORKS (6 at most); 3 a work more");
        String works = LAND + "a;" + "b0,1900,0,1;".repeat(6);
        due.is(reads(works, 6), 6, "count", 3);
        for (int i = 0; i < 5; i++) {
            fails(works + KINDS.charAt(i), 91, 3);
            fails(works + KINDS.charAt(i) + "0,1900,0,1;", 91, 3);
        }
        due.sentence("all of them at their most");
        Subject x = Subject.full();
        due.row(x, 0, new int[] {4, 16, 8, 6, 12, 0}, "count");
    }

    private static void theFirstToken() {
        due.sentence("FAULTS, the first TOKEN that has one (its first byte)");
        fails("ly1699,100,x", 2, 2);
        fails("ly1700,100,x", 7, 2);
        fails("ly1700,100,100,100,51,16;", 7, 2);
        fails("ly1700,0,0,0,51,16;", 13, 2);
        fails("ly17 00,0,0,0,0,0;", 2, 2);
        fails("ly1700 ,0,0,0,0,0;", 6, 1);
        fails("lyx1699", 2, 1);
        fails("ly1700x1699", 6, 1);
        fails(LAND + "a1499,1400;", 18, 2);
        fails(LAND + "a1499;", 18, 2);
        fails(LAND + "a1900,1899,", 23, 2);
        fails(LAND + "p1,1499,1,9;", 18, 2);
        fails(LAND + "p0,1499,1,9;", 20, 2);
        fails(LAND + "p0,1900,1,9;", 25, 2);
        fails(LAND + "p0,1900,0,9;x", 27, 2);
        fails(LAND + "b0,1900,0,0", 27, 2);
        fails(LAND.repeat(4) + "a1499,l", 69, 2);
        fails(LAND.repeat(4) + "l" + (char) 0, 68, 3);
    }

    private static void theLeastFault() {
        due.sentence("of one TOKEN the least");
        // A number that cannot stand there is not as told, too.
        fails("9999", 0, 1);
        fails("l9999", 1, 1);
        fails(LAND + "9999", 17, 1);
        fails(LAND + "a;9999", 19, 1);
        // Too many figures: none, not one that is too great.
        fails("ly99999", 2, 1);
        fails(LAND + "a99999,1", 18, 1);
        // A letter that has no room cannot stand there either.
        fails(LAND.repeat(4) + "a;l", 70, 1);
        fails(LAND.repeat(3) + "ll", 52, 1);
        fails("ly1700,0,0,0,0,0;y1701,0,0,0,0,0;y1702,0,0,0,0,0;y1703,0,0,0,0,0;a;y", 67, 1);
        fails("ly1700,0,0,0,0,0;y1701,0,0,0,0,0;y1702,0,0,0,0,0;y1703,0,0,0,0,0;ll", 66, 1);
        fails(LAND + "a;".repeat(8) + "p0,1900,0,0;a", 45, 1);
        fails(LAND + "a;".repeat(7) + "aa", 32, 1);
        fails(LAND + "p0,1900,0,0;".repeat(5) + "pp", 78, 1);
        fails(LAND + "p0,1900,0,0;".repeat(6) + "a", 89, 1);
        fails(LAND + "p0,1900,0,0;".repeat(6) + "x", 89, 1);
        fails(LAND + "p0,1900,0,0;".repeat(6) + ";", 89, 1);
    }

    private static void aFaultLeavesAll() {
        due.sentence("all stays, but the tape is empty then, and fault() tells this one");
        String[] texts = {"", "x", LAND + "x", LAND.repeat(4) + "a;".repeat(9), LAND + "a;p0,1900,0,0;n0,1900,0,9;"};
        int[] places = {0, 0, 17, 84, 41};
        int[] faults = {1, 1, 1, 3, 2};
        for (int i = 0; i < texts.length; i++) {
            Subject x = Subject.busy();
            x.call("rights");
            String before = x.rights();
            due.is(x.feed(texts[i]), Subject.FAULT - places[i], "rights");
            due.is(x, faults[i], "fault");
            due.is(x, 0, "count", 5);
            due.same("what there is", x.rights(), before);
            due.is(x, 2, "count", 4);
            due.is(x, 1, "undo");
            due.is(x, 1930, "work", 1, 2);
            due.is(x, 0, "undo");
            due.is(x, 71, "act", 0, 1, 2);
            due.is(x, 1, "restore", 0);
            due.is(x, Subject.STATE, "restore", 1);
        }
        due.sentence("The tape, empty then: what was read with a fault is not read again");
        Subject x = Subject.read(LAND).feed("ly");
        due.is(x, Subject.FAULT - 2, "rights");
        due.is(x.feed(LAND + "a;"), 0, "rights");
        due.is(x, 1, "count", 2);
        due.is(x, Subject.FAULT, "rights");
        due.is(x, 1, "count", 2);
    }

    private static void inPlaceOfThoseBefore() {
        due.sentence("RIGHTS that are read stand in place of those before");
        Subject x = Subject.busy();
        x.call("rights");
        due.is(x.feed(LAND), 0, "rights");
        due.row(x, 0, new int[] {1, 1, 0, 0, 0, 0}, "count");
        due.is(x, Subject.BAD, "act", 0, 1, 0);
        due.is(x, Subject.BAD, "act", 1, 0, 0);
        due.is(x, Subject.BAD, "author", 0, 0);
        due.is(x, Subject.BAD, "work", 0, 0);
        due.is(x, Subject.BAD, "free", 0, 0, 0);
        due.is(x, Subject.NONE, "next", 1500, 0, 0);
        due.sentence("no DEED can be undone");
        due.is(x, Subject.STATE, "undo");
        due.sentence("IMAGES stay");
        due.is(x, 1, "restore", 0);
        due.row(x, 0, new int[] {2, 3, 2, 2, 0, 0}, "count");
        due.is(x, Subject.STATE, "restore", 1);
        due.sentence("The tape, empty then, is read: how many WORKS there are");
        for (int works = 0; works <= 6; works++) {
            due.is(new Subject().feed(LAND + "n0,1900,0,0;".repeat(works)), works, "rights");
        }
        due.sentence("the same RIGHTS read again: DEEDS are gone all the same");
        x = Subject.read(LAND);
        x.call("alter", 0, 0, 1, 0);
        due.is(x.feed(LAND), 0, "rights");
        due.is(x, 0, "count", 4);
        due.is(x, Subject.STATE, "undo");
    }

    private Promise03RightsTest() {
    }
}
