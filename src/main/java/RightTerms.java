/**
 * Terms of a right: from when works are free, land by land, by laws that change.
 * All rows are made with the object and used again, so no call makes an object.
 */
public final class RightTerms {
    public static final int NONE = -1000000, BAD = -1000001, STATE = -1000002, FULL = -1000003;

    private static final int FAULT_BASE = -1000100;
    private static final int NEVER = 9999;
    private static final int MAX_BYTES = 250, MAX_FIGURES = 4;
    private static final int MAX_LANDS = 4, MAX_ACTS = 4, MAX_AUTHORS = 8, MAX_WORKS = 6;
    private static final int MAX_DEEDS = 12, IMAGES = 2;
    private static final int FIRST_YEAR = 1500, FIRST_ACT_YEAR = 1700, LAST_YEAR = 2099, LAST_ASKED_YEAR = 2299;
    private static final int MAX_DOUBT = 60, MAX_MORE_LIFE = 50;

    // The numbers of an act, in the order of the tape.
    private static final int YEAR = 0, LIFE = 1, PUBLIC = 2, PICTURES = 3, LATE = 4, FLAGS = 5, ACT_NUMBERS = 6;
    private static final int[] MOST_OF_ACT = {LAST_YEAR, 99, 99, 99, 50, 15};
    private static final int JOINT = 1, KEEPS = 2, REVIVES = 4, COMPARES = 8;

    private static final int FROM = 0, TO = 1, AUTHOR_NUMBERS = 2;

    // The numbers of a work, in the order of the tape.
    private static final int KIND = 0, ORIGIN = 1, MADE = 2, PUBLISHED = 3, AUTHORS = 4, WORK_NUMBERS = 5;

    private static final int NO_KIND = -1, WORK = 0, BOOK = 1, SONG = 2, PICTURE = 3, FILM = 4, NAMELESS = 5, KINDS = 6;
    private static final int[] KIND_ABOVE = {NO_KIND, WORK, BOOK, WORK, WORK, WORK};

    private final Reader reader = new Reader();
    private final Deeds deeds = new Deeds();
    private final Rights now = new Rights();
    /** What is being read, or what would be: never what is. */
    private final Rights trial = new Rights();
    private final Rights[] kept = new Rights[IMAGES];
    private final Chain chain = new Chain();
    private final int[] earliestOfAll = new int[MAX_LANDS * MAX_WORKS];

    public RightTerms() {
        for (int i = 0; i < IMAGES; i++) {
            kept[i] = new Rights();
        }
    }

    // ---- what is told

    public int feed(int letter) {
        if (letter < 0 || letter > 255) {
            return BAD;
        }
        return reader.tape.takes(letter) ? reader.tape.size : FULL;
    }

    public int rights() {
        boolean read = reader.readsInto(trial);
        reader.tape.size = 0;
        if (!read) {
            return FAULT_BASE - reader.faultPlace;
        }
        now.copyFrom(trial);
        deeds.forgetAll();
        return now.works;
    }

    public int fault() {
        return reader.faultNumber;
    }

    public int undo() {
        if (deeds.size == 0) {
            return STATE;
        }
        deeds.takeBack(now);
        return deeds.size;
    }

    // ---- what is done

    public int enact(int land, int year, int life, int flags) {
        if (!now.hasLand(land)) {
            return BAD;
        }
        int act = now.actsOf[land];
        if (!now.actFits(land, act, YEAR, year) || !now.actFits(land, act, LIFE, life)
                || !now.actFits(land, act, FLAGS, flags)) {
            return BAD;
        }
        if (act >= MAX_ACTS) {
            return FULL;
        }
        deeds.keep(now);
        now.addActLikeLast(land);
        int row = now.actRow(land, act);
        now.acts[row + YEAR] = year;
        now.acts[row + LIFE] = life;
        now.acts[row + FLAGS] = flags;
        return act;
    }

    public int repeal(int land) {
        if (!now.hasLand(land)) {
            return BAD;
        }
        if (now.actsOf[land] <= 1) {
            return STATE;
        }
        deeds.keep(now);
        now.actsOf[land]--;
        return now.actsOf[land];
    }

    public int alter(int land, int act, int which, int v) {
        if (!now.hasAct(land, act) || which < LIFE || which > FLAGS || !now.actFits(land, act, which, v)) {
            return BAD;
        }
        deeds.keep(now);
        int at = now.actRow(land, act) + which;
        int before = now.acts[at];
        now.acts[at] = v;
        return before;
    }

    public int die(int author, int from, int to) {
        boolean lives = from == 0 && to == 0;
        if (!now.hasAuthor(author) || !lives && !diedWithin(from, to)) {
            return BAD;
        }
        deeds.keep(now);
        int row = author * AUTHOR_NUMBERS;
        boolean other = now.deaths[row + FROM] != from || now.deaths[row + TO] != to;
        now.deaths[row + FROM] = from;
        now.deaths[row + TO] = to;
        return other ? 1 : 0;
    }

    public int change(int work, int which, int v) {
        if (!now.hasWork(work) || which < ORIGIN || which > AUTHORS || !now.workFits(work, which, v)) {
            return BAD;
        }
        deeds.keep(now);
        int at = work * WORK_NUMBERS + which;
        int before = now.workRows[at];
        now.workRows[at] = v;
        return before;
    }

    // ---- what there is

    public int act(int land, int act, int what) {
        if (!now.hasAct(land, act) || what < YEAR || what > FLAGS) {
            return BAD;
        }
        return now.acts[now.actRow(land, act) + what];
    }

    public int author(int author, int what) {
        if (!now.hasAuthor(author)) {
            return BAD;
        }
        switch (what) {
            case 0:
                return now.deaths[author * AUTHOR_NUMBERS + FROM];
            case 1:
                return now.deaths[author * AUTHOR_NUMBERS + TO];
            case 2:
                return worksBy(author);
            case 3:
                return worksDecidedBy(author);
            default:
                return BAD;
        }
    }

    public int work(int work, int what) {
        if (!now.hasWork(work) || what < KIND || what > AUTHORS) {
            return BAD;
        }
        return now.ofWork(work, what);
    }

    public int as(int work, int kind) {
        if (!now.hasWork(work) || kind < WORK || kind >= KINDS) {
            return BAD;
        }
        return isOfKind(now.ofWork(work, KIND), kind) ? work : NONE;
    }

    public int inForce(int land, int year) {
        if (!now.hasLand(land) || !mayBeAsked(year)) {
            return BAD;
        }
        return now.actInForce(land, year);
    }

    // ---- terms

    public int term(int work, int land, int act, int what) {
        if (!now.hasWork(work) || !now.hasAct(land, act) || what < 0 || what > 1) {
            return BAD;
        }
        chain.take(now, work, land);
        chain.setDeaths(what == 0 ? 0 : now.doubtOf(work));
        return chain.termBy(now.actRow(land, act));
    }

    public int free(int work, int land, int what) {
        if (!now.hasWork(work) || !now.hasLand(land)) {
            return BAD;
        }
        chain.take(now, work, land);
        switch (what) {
            case 0:
                chain.weigh();
                return chain.earliest;
            case 1:
                chain.weigh();
                return chain.latest;
            case 2:
                chain.followEarliestDeaths();
                return chain.comebacks;
            case 3:
                return chain.moments - 1;
            case 4:
                chain.followEarliestDeaths();
                return chain.changedIn;
            default:
                return BAD;
        }
    }

    public int isProtected(int work, int land, int year) {
        if (!now.hasWork(work) || !now.hasLand(land) || !mayBeAsked(year)) {
            return BAD;
        }
        chain.take(now, work, land);
        return chain.protects(year);
    }

    public int span(int work, int land, int i, int what) {
        if (!now.hasWork(work) || !now.hasLand(land) || i < 0 || what < 0 || what > 1) {
            return BAD;
        }
        chain.take(now, work, land);
        chain.followEarliestDeaths();
        return chain.edgeOfRow(i, what);
    }

    public int everywhere(int work, int what) {
        if (!now.hasWork(work) || what < 0 || what > 3) {
            return BAD;
        }
        int firstLand = NONE;
        int first = NEVER;
        int last = 0;
        int inDoubt = 0;
        for (int land = 0; land < now.lands; land++) {
            chain.take(now, work, land);
            chain.weigh();
            if (firstLand == NONE || chain.earliest < first) {
                firstLand = land;
                first = chain.earliest;
            }
            last = Math.max(last, chain.latest);
            if (chain.earliest != chain.latest) {
                inDoubt++;
            }
        }
        switch (what) {
            case 0:
                return firstLand;
            case 1:
                return first;
            case 2:
                return last;
            default:
                return inDoubt;
        }
    }

    public int next(int year, int i, int what) {
        if (now.lands == 0) {
            return STATE;
        }
        if (!mayBeAsked(year) || i < 0 || what < 0 || what > 1) {
            return BAD;
        }
        fillEarliestOfAll();
        int at = placeOfRank(year, i);
        if (at == NONE) {
            return NONE;
        }
        return what == 0 ? earliestOfAll[at] : 10 * (at / MAX_WORKS) + at % MAX_WORKS;
    }

    public int longer(int work, int land, int n) {
        if (!now.hasWork(work) || !now.hasLand(land) || n < -MAX_MORE_LIFE || n > MAX_MORE_LIFE) {
            return BAD;
        }
        chain.take(now, work, land);
        chain.weigh();
        int before = chain.latest;
        trial.copyFrom(now);
        int at = trial.actRow(land, trial.actsOf[land] - 1) + LIFE;
        trial.acts[at] = Math.max(0, Math.min(MOST_OF_ACT[LIFE], trial.acts[at] + n));
        chain.take(trial, work, land);
        chain.weigh();
        int then = chain.latest;
        return before == NEVER || then == NEVER ? NONE : then - before;
    }

    public int image(int k) {
        if (k < 0 || k >= IMAGES) {
            return BAD;
        }
        if (now.lands == 0) {
            return STATE;
        }
        kept[k].copyFrom(now);
        return 1;
    }

    public int restore(int k) {
        if (k < 0 || k >= IMAGES) {
            return BAD;
        }
        // Rights have a land at least: an image without one was never kept.
        if (kept[k].lands == 0) {
            return STATE;
        }
        now.copyFrom(kept[k]);
        deeds.forgetAll();
        return 1;
    }

    public int count(int what) {
        switch (what) {
            case 0:
                return now.lands;
            case 1:
                return now.allActs();
            case 2:
                return now.authors;
            case 3:
                return now.works;
            case 4:
                return deeds.size;
            case 5:
                return reader.tape.size;
            default:
                return BAD;
        }
    }

    // ---- parts of the answers

    private int worksBy(int author) {
        int found = 0;
        for (int work = 0; work < now.works; work++) {
            if (now.isBy(work, author)) {
                found++;
            }
        }
        return found;
    }

    private int worksDecidedBy(int author) {
        trial.copyFrom(now);
        int decided = 0;
        for (int work = 0; work < now.works; work++) {
            if (now.isBy(work, author)) {
                int others = now.ofWork(work, AUTHORS) & ~(1 << author);
                trial.workRows[work * WORK_NUMBERS + AUTHORS] = others;
                boolean unfit = others == 0 && needsAuthors(now.ofWork(work, KIND));
                if (unfit || isFreeOtherwiseInTrial(work)) {
                    decided++;
                }
            }
        }
        return decided;
    }

    private boolean isFreeOtherwiseInTrial(int work) {
        for (int land = 0; land < now.lands; land++) {
            chain.take(now, work, land);
            chain.weigh();
            int earliest = chain.earliest;
            int latest = chain.latest;
            chain.take(trial, work, land);
            chain.weigh();
            if (chain.earliest != earliest || chain.latest != latest) {
                return true;
            }
        }
        return false;
    }

    /** Where no work is, NEVER stands, which next leaves out. */
    private void fillEarliestOfAll() {
        for (int at = 0; at < earliestOfAll.length; at++) {
            int land = at / MAX_WORKS;
            int work = at % MAX_WORKS;
            earliestOfAll[at] = NEVER;
            if (now.hasLand(land) && now.hasWork(work)) {
                chain.take(now, work, land);
                chain.weigh();
                earliestOfAll[at] = chain.earliest;
            }
        }
    }

    private int placeOfRank(int year, int rank) {
        for (int at = 0; at < earliestOfAll.length; at++) {
            if (isAhead(year, at) && rankOf(year, at) == rank) {
                return at;
            }
        }
        return NONE;
    }

    private boolean isAhead(int year, int at) {
        return earliestOfAll[at] >= year && earliestOfAll[at] != NEVER;
    }

    private int rankOf(int year, int at) {
        int rank = 0;
        for (int other = 0; other < earliestOfAll.length; other++) {
            boolean sooner = earliestOfAll[other] < earliestOfAll[at]
                    || earliestOfAll[other] == earliestOfAll[at] && other < at;
            if (sooner && isAhead(year, other)) {
                rank++;
            }
        }
        return rank;
    }

    // ---- what holds of numbers alone

    private static boolean mayBeAsked(int year) {
        return year >= FIRST_YEAR && year <= LAST_ASKED_YEAR;
    }

    private static boolean diedWithin(int from, int to) {
        return from >= FIRST_YEAR && from <= to && to <= LAST_YEAR;
    }

    private static boolean needsAuthors(int kind) {
        return kind != PICTURE && kind != NAMELESS;
    }

    private static boolean isOfKind(int kind, int asked) {
        int at = kind;
        for (int step = 0; step < KINDS && at >= 0 && at < KINDS; step++) {
            if (at == asked) {
                return true;
            }
            at = KIND_ABOVE[at];
        }
        return false;
    }

    /** Lands with their acts, authors, works; without a land there are no rights. */
    private static final class Rights {
        int lands, authors, works;
        final int[] actsOf = new int[MAX_LANDS];
        final int[] acts = new int[MAX_LANDS * MAX_ACTS * ACT_NUMBERS];
        /** FROM and TO of each author; 0, 0: it lives. */
        final int[] deaths = new int[MAX_AUTHORS * AUTHOR_NUMBERS];
        final int[] workRows = new int[MAX_WORKS * WORK_NUMBERS];

        void clear() {
            lands = 0;
            authors = 0;
            works = 0;
        }

        void copyFrom(Rights other) {
            lands = other.lands;
            authors = other.authors;
            works = other.works;
            System.arraycopy(other.actsOf, 0, actsOf, 0, actsOf.length);
            System.arraycopy(other.acts, 0, acts, 0, acts.length);
            System.arraycopy(other.deaths, 0, deaths, 0, deaths.length);
            System.arraycopy(other.workRows, 0, workRows, 0, workRows.length);
        }

        boolean hasLand(int land) {
            return land >= 0 && land < lands;
        }

        boolean hasAct(int land, int act) {
            return hasLand(land) && act >= 0 && act < actsOf[land];
        }

        boolean hasAuthor(int author) {
            return author >= 0 && author < authors;
        }

        boolean hasWork(int work) {
            return work >= 0 && work < works;
        }

        int actRow(int land, int act) {
            return (land * MAX_ACTS + act) * ACT_NUMBERS;
        }

        int ofWork(int work, int which) {
            return workRows[work * WORK_NUMBERS + which];
        }

        boolean isBy(int work, int author) {
            return (ofWork(work, AUTHORS) >> author & 1) != 0;
        }

        int allActs() {
            int all = 0;
            for (int land = 0; land < lands; land++) {
                all += actsOf[land];
            }
            return all;
        }

        /** Whether an act, there already or the next of its land, may have this number. */
        boolean actFits(int land, int act, int which, int v) {
            int least = 0;
            if (which == YEAR) {
                least = act == 0 ? FIRST_ACT_YEAR : acts[actRow(land, act - 1) + YEAR] + 1;
            }
            return v >= least && v <= MOST_OF_ACT[which];
        }

        boolean workFits(int work, int which, int v) {
            int made = ofWork(work, MADE);
            int published = ofWork(work, PUBLISHED);
            switch (which) {
                case ORIGIN:
                    return hasLand(v);
                case MADE:
                    return v >= FIRST_YEAR && v <= LAST_YEAR && (published == 0 || v <= published);
                case PUBLISHED:
                    return v == 0 || v >= made && v <= LAST_YEAR;
                case AUTHORS:
                    return v >= 0 && v < 1 << authors && (v != 0 || !needsAuthors(ofWork(work, KIND)));
                default:
                    return false;
            }
        }

        /** For a land that has an act, and room for one more. */
        void addActLikeLast(int land) {
            int act = actsOf[land];
            System.arraycopy(acts, actRow(land, act - 1), acts, actRow(land, act), ACT_NUMBERS);
            actsOf[land]++;
        }

        int actInForce(int land, int year) {
            for (int act = actsOf[land] - 1; act > 0; act--) {
                if (acts[actRow(land, act) + YEAR] <= year) {
                    return act;
                }
            }
            return 0;
        }

        boolean everCompares(int land) {
            for (int act = 0; act < actsOf[land]; act++) {
                if ((acts[actRow(land, act) + FLAGS] & COMPARES) != 0) {
                    return true;
                }
            }
            return false;
        }

        /** K of a work; who lives has 0, 0 and so adds nothing. */
        int doubtOf(int work) {
            int widest = 0;
            for (int author = 0; author < authors; author++) {
                if (isBy(work, author)) {
                    int row = author * AUTHOR_NUMBERS;
                    widest = Math.max(widest, deaths[row + TO] - deaths[row + FROM]);
                }
            }
            return Math.min(widest, MAX_DOUBT);
        }

        /** The latest death among a set of authors, for k. */
        int latestDeath(int set, int k) {
            int latest = 0;
            for (int author = 0; author < authors; author++) {
                if ((set >> author & 1) != 0) {
                    int from = deaths[author * AUTHOR_NUMBERS + FROM];
                    if (from == 0) {
                        return NEVER;
                    }
                    latest = Math.max(latest, Math.min(from + k, deaths[author * AUTHOR_NUMBERS + TO]));
                }
            }
            return latest;
        }
    }

    /** The rights as they were ahead of each deed that can be undone. */
    private static final class Deeds {
        private final Rights[] before = new Rights[MAX_DEEDS];
        private int oldest;
        int size;

        Deeds() {
            for (int i = 0; i < MAX_DEEDS; i++) {
                before[i] = new Rights();
            }
        }

        void forgetAll() {
            size = 0;
        }

        void keep(Rights rights) {
            if (size == MAX_DEEDS) {
                oldest = (oldest + 1) % MAX_DEEDS;
                size--;
            }
            before[(oldest + size) % MAX_DEEDS].copyFrom(rights);
            size++;
        }

        /** For a size above 0. */
        void takeBack(Rights rights) {
            size--;
            rights.copyFrom(before[(oldest + size) % MAX_DEEDS]);
        }
    }

    /** The bytes that were fed, and the token at which the reader stands. */
    private static final class Tape {
        static final int LETTER = 0, NUMBER = 1, SIGN = 2, END = 3, NO_TOKEN = 4;

        private final int[] bytes = new int[MAX_BYTES];
        private int behind;
        int size;
        int place;
        int sort;
        /** The letter or the sign itself, or the number. */
        int value;

        boolean takes(int letter) {
            if (size >= MAX_BYTES) {
                return false;
            }
            bytes[size] = letter;
            size++;
            return true;
        }

        void begin() {
            behind = 0;
            step();
        }

        void step() {
            place = behind;
            value = 0;
            int at = place;
            while (at < size && bytes[at] >= '0' && bytes[at] <= '9') {
                value = value * 10 + bytes[at] - '0';
                at++;
            }
            if (at > place) {
                sort = at - place <= MAX_FIGURES ? NUMBER : NO_TOKEN;
                behind = at;
            } else if (at >= size) {
                sort = END;
            } else {
                value = bytes[at];
                behind = at + 1;
                boolean isLetter = value >= 'a' && value <= 'z';
                boolean isSign = value == ',' || value == ';';
                sort = isLetter ? LETTER : isSign ? SIGN : NO_TOKEN;
            }
        }

        boolean isLetter(int letter) {
            return sort == LETTER && value == letter;
        }

        boolean isSign(int sign) {
            return sort == SIGN && value == sign;
        }
    }

    /** Reads a tape into rights; stops at the first fault. */
    private static final class Reader {
        private static final int MISPLACED = 1, NOT_AS_TOLD = 2, NO_ROOM = 3;

        final Tape tape = new Tape();
        int faultNumber;
        int faultPlace;

        boolean readsInto(Rights draft) {
            draft.clear();
            tape.begin();
            if (!readsLands(draft) || !readsAuthors(draft) || !readsWorks(draft)) {
                return false;
            }
            return tape.sort == Tape.END || fails(MISPLACED);
        }

        private boolean fails(int number) {
            faultNumber = number;
            faultPlace = tape.place;
            return false;
        }

        private boolean readsLands(Rights draft) {
            if (!tape.isLetter('l')) {
                return fails(MISPLACED);
            }
            // One round more than there is room for: that one fails.
            for (int round = 0; round <= MAX_LANDS && tape.isLetter('l'); round++) {
                if (draft.lands >= MAX_LANDS) {
                    return fails(NO_ROOM);
                }
                draft.actsOf[draft.lands] = 0;
                draft.lands++;
                tape.step();
                if (!readsActs(draft, draft.lands - 1)) {
                    return false;
                }
            }
            return true;
        }

        private boolean readsActs(Rights draft, int land) {
            if (!tape.isLetter('y')) {
                return fails(MISPLACED);
            }
            for (int round = 0; round <= MAX_ACTS && tape.isLetter('y'); round++) {
                if (draft.actsOf[land] >= MAX_ACTS) {
                    return fails(NO_ROOM);
                }
                tape.step();
                if (!readsAct(draft, land, draft.actsOf[land])) {
                    return false;
                }
                draft.actsOf[land]++;
            }
            return true;
        }

        private boolean readsAct(Rights draft, int land, int act) {
            for (int which = YEAR; which <= FLAGS; which++) {
                int v = tape.value;
                if (!passesNumber(draft.actFits(land, act, which, v))) {
                    return false;
                }
                draft.acts[draft.actRow(land, act) + which] = v;
                if (!passesSign(which < FLAGS ? ',' : ';')) {
                    return false;
                }
            }
            return true;
        }

        private boolean readsAuthors(Rights draft) {
            for (int round = 0; round <= MAX_AUTHORS && tape.isLetter('a'); round++) {
                if (draft.authors >= MAX_AUTHORS) {
                    return fails(NO_ROOM);
                }
                tape.step();
                if (!readsDeath(draft, draft.authors * AUTHOR_NUMBERS)) {
                    return false;
                }
                draft.authors++;
            }
            return true;
        }

        private boolean readsDeath(Rights draft, int row) {
            draft.deaths[row + FROM] = 0;
            draft.deaths[row + TO] = 0;
            if (tape.isSign(';')) {
                tape.step();
                return true;
            }
            int from = tape.value;
            if (!passesNumber(diedWithin(from, LAST_YEAR)) || !passesSign(',')) {
                return false;
            }
            int to = tape.value;
            if (!passesNumber(diedWithin(from, to)) || !passesSign(';')) {
                return false;
            }
            draft.deaths[row + FROM] = from;
            draft.deaths[row + TO] = to;
            return true;
        }

        private boolean readsWorks(Rights draft) {
            for (int round = 0; round <= MAX_WORKS && kindAhead() != NO_KIND; round++) {
                if (draft.works >= MAX_WORKS) {
                    return fails(NO_ROOM);
                }
                int kind = kindAhead();
                tape.step();
                if (!readsWork(draft, draft.works, kind)) {
                    return false;
                }
                draft.works++;
            }
            return true;
        }

        private boolean readsWork(Rights draft, int work, int kind) {
            int row = work * WORK_NUMBERS;
            draft.workRows[row + KIND] = kind;
            // MADE is held against PUBLISHED, which is yet to come.
            draft.workRows[row + PUBLISHED] = 0;
            for (int which = ORIGIN; which <= AUTHORS; which++) {
                int v = tape.value;
                if (!passesNumber(draft.workFits(work, which, v))) {
                    return false;
                }
                draft.workRows[row + which] = v;
                if (!passesSign(which < AUTHORS ? ',' : ';')) {
                    return false;
                }
            }
            return true;
        }

        private int kindAhead() {
            if (tape.sort != Tape.LETTER) {
                return NO_KIND;
            }
            switch (tape.value) {
                case 'b':
                    return BOOK;
                case 's':
                    return SONG;
                case 'p':
                    return PICTURE;
                case 'f':
                    return FILM;
                case 'n':
                    return NAMELESS;
                default:
                    return NO_KIND;
            }
        }

        private boolean passesNumber(boolean fits) {
            if (tape.sort != Tape.NUMBER) {
                return fails(MISPLACED);
            }
            if (!fits) {
                return fails(NOT_AS_TOLD);
            }
            tape.step();
            return true;
        }

        private boolean passesSign(int sign) {
            if (!tape.isSign(sign)) {
                return fails(MISPLACED);
            }
            tape.step();
            return true;
        }
    }

    /** What becomes of the term of one work in one land, act behind act. */
    private static final class Chain {
        private Rights rights = new Rights();
        private int work, land;
        private int kind, origin, made, published;
        /** The year of the land's first act, then those of the events, rising. */
        private final int[] years = new int[2 * MAX_ACTS];
        private final int[] ownRows = new int[2 * MAX_ACTS];
        private final int[] homeRows = new int[2 * MAX_ACTS];
        int moments;
        /** The deaths that count by acts that are not JOINT, and by those that are. */
        private final int[] deathBy = new int[2];
        private int last;
        private final int[] gapStarts = new int[2 * MAX_ACTS];
        private final int[] gapEnds = new int[2 * MAX_ACTS];
        int comebacks;
        int changedIn;
        int earliest, latest;

        void take(Rights of, int ofWork, int inLand) {
            rights = of;
            work = ofWork;
            land = inLand;
            kind = of.ofWork(ofWork, KIND);
            origin = of.ofWork(ofWork, ORIGIN);
            made = of.ofWork(ofWork, MADE);
            published = of.ofWork(ofWork, PUBLISHED);
            years[0] = rights.acts[rights.actRow(land, 0) + YEAR];
            moments = 1;
            addYearsOf(land);
            if (rights.everCompares(land)) {
                addYearsOf(origin);
            }
            for (int i = 0; i < moments; i++) {
                ownRows[i] = rights.actRow(land, rights.actInForce(land, years[i]));
                homeRows[i] = rights.actRow(origin, rights.actInForce(origin, years[i]));
            }
        }

        private void addYearsOf(int ofLand) {
            for (int act = 0; act < rights.actsOf[ofLand]; act++) {
                addYear(rights.acts[rights.actRow(ofLand, act) + YEAR]);
            }
        }

        private void addYear(int year) {
            int at = moments;
            while (at > 0 && years[at - 1] > year) {
                at--;
            }
            // At 0 it is ahead of the land's first act: no event.
            if (at == 0 || years[at - 1] == year || moments >= years.length) {
                return;
            }
            System.arraycopy(years, at, years, at + 1, moments - at);
            years[at] = year;
            moments++;
        }

        /** Answers whether a death is another one than it was; only deaths make one k unlike another. */
        boolean setDeaths(int k) {
            int alone = rights.latestDeath(countingAuthors(false), k);
            int joint = rights.latestDeath(countingAuthors(true), k);
            boolean other = deathBy[0] != alone || deathBy[JOINT] != joint;
            deathBy[0] = alone;
            deathBy[JOINT] = joint;
            return other;
        }

        private int countingAuthors(boolean joint) {
            int all = rights.ofWork(work, AUTHORS);
            int first = all & -all;
            switch (kind) {
                case BOOK:
                    return joint ? all : first;
                case SONG:
                    return all;
                case FILM:
                    int others = all ^ first;
                    return first | others & -others;
                default:
                    return 0;
            }
        }

        /** For the deaths that are set. */
        int termBy(int row) {
            switch (kind) {
                case PICTURE:
                    return made + rights.acts[row + PICTURES];
                case NAMELESS:
                    int length = rights.acts[row + PUBLIC];
                    return length + (published != 0 && published <= made + length ? published : made);
                default:
                    int death = deathBy[rights.acts[row + FLAGS] & JOINT];
                    if (death == NEVER) {
                        return NEVER;
                    }
                    int end = death + rights.acts[row + LIFE];
                    return published > end ? published + rights.acts[row + LATE] : end;
            }
        }

        private int termIn(int moment) {
            int own = termBy(ownRows[moment]);
            boolean compares = (rights.acts[ownRows[moment] + FLAGS] & COMPARES) != 0;
            return compares && land != origin ? Math.min(own, termBy(homeRows[moment])) : own;
        }

        void followEarliestDeaths() {
            setDeaths(0);
            follow();
        }

        private void follow() {
            last = termIn(0);
            comebacks = 0;
            changedIn = NONE;
            for (int i = 1; i < moments; i++) {
                int year = years[i];
                int flags = rights.acts[ownRows[i] + FLAGS];
                int fresh = termIn(i);
                int before = last;
                if (last >= year) {
                    int wanted = (flags & KEEPS) != 0 ? Math.max(last, fresh) : fresh;
                    // What was protected in years gone by stays so.
                    last = Math.max(wanted, year - 1);
                } else if ((flags & REVIVES) != 0 && fresh >= year) {
                    gapStarts[comebacks] = last + 1;
                    gapEnds[comebacks] = year - 1;
                    comebacks++;
                    last = fresh;
                }
                if (last != before) {
                    changedIn = year;
                }
            }
        }

        /** Finds the earliest and the latest year from when the work is free. */
        void weigh() {
            int doubt = rights.doubtOf(work);
            for (int k = 0; k <= doubt; k++) {
                boolean other = setDeaths(k);
                if (k == 0 || other) {
                    follow();
                    int free = last == NEVER ? NEVER : last + 1;
                    earliest = k == 0 ? free : Math.min(earliest, free);
                    latest = k == 0 ? free : Math.max(latest, free);
                }
            }
        }

        /** 1 for all k, 0 for none, 2 for some. */
        int protects(int year) {
            int doubt = rights.doubtOf(work);
            boolean some = false;
            boolean all = true;
            for (int k = 0; k <= doubt; k++) {
                boolean other = setDeaths(k);
                if (k == 0 || other) {
                    follow();
                    boolean covers = covers(year);
                    some = some || covers;
                    all = all && covers;
                }
            }
            if (all) {
                return 1;
            }
            return some ? 2 : 0;
        }

        private boolean covers(int year) {
            for (int i = 0; i < comebacks; i++) {
                if (year >= gapStarts[i] && year <= gapEnds[i]) {
                    return false;
                }
            }
            return year >= made && year <= last;
        }

        /** The first (0) or last (1) year of a row of protected years; NONE: not so many. */
        int edgeOfRow(int row, int edge) {
            int start = made;
            int found = 0;
            for (int i = 0; i <= comebacks; i++) {
                boolean open = i == comebacks;
                int end = open ? last : gapStarts[i] - 1;
                // A gap without a year leaves one row on both its sides.
                boolean parted = open || gapEnds[i] >= gapStarts[i];
                if (parted && start <= end) {
                    if (found == row) {
                        return edge == 0 ? start : end;
                    }
                    found++;
                }
                if (parted && !open) {
                    start = Math.max(start, gapEnds[i] + 1);
                }
            }
            return NONE;
        }
    }
}
