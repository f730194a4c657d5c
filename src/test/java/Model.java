import java.util.ArrayDeque;
import java.util.ArrayList;
import java.util.BitSet;
import java.util.Comparator;
import java.util.Deque;
import java.util.List;
import java.util.TreeSet;
import java.util.regex.Matcher;
import java.util.regex.Pattern;

/**
 * The document, read anew, in the plainest and slowest way: values that never change,
 * years as sets. It shares no code and no idea of rows with RightTerms.
 */
final class Model {
    static final int NONE = -1000000, BAD = -1000001, STATE = -1000002, FULL = -1000003, NEVER = 9999;

    record Act(int year, int life, int pub, int pictures, int late, int flags) {
        boolean joint() { return flags % 2 == 1; }
        boolean keeps() { return flags / 2 % 2 == 1; }
        boolean revives() { return flags / 4 % 2 == 1; }
        boolean compares() { return flags / 8 % 2 == 1; }

        int number(int which) {
            return List.of(year, life, pub, pictures, late, flags).get(which);
        }

        Act with(int which, int v) {
            return new Act(which == 0 ? v : year, which == 1 ? v : life, which == 2 ? v : pub,
                    which == 3 ? v : pictures, which == 4 ? v : late, which == 5 ? v : flags);
        }
    }

    record Author(int from, int to) {
        boolean lives() { return from == 0; }
        int death(int k) { return lives() ? NEVER : Math.min(from + k, to); }
    }

    record Work(char kind, int origin, int made, int published, int authors) {
        Work with(int which, int v) {
            return new Work(kind, which == 1 ? v : origin, which == 2 ? v : made, which == 3 ? v : published,
                    which == 4 ? v : authors);
        }
    }

    record Rights(List<List<Act>> lands, List<Author> authors, List<Work> works) {
        Rights withLand(int land, List<Act> acts) {
            List<List<Act>> changed = new ArrayList<>(lands);
            changed.set(land, List.copyOf(acts));
            return new Rights(List.copyOf(changed), authors, works);
        }

        Rights withAct(int land, int act, Act a) {
            List<Act> changed = new ArrayList<>(lands.get(land));
            changed.set(act, a);
            return withLand(land, changed);
        }

        Rights withAuthor(int author, Author a) {
            List<Author> changed = new ArrayList<>(authors);
            changed.set(author, a);
            return new Rights(lands, List.copyOf(changed), works);
        }

        Rights withWork(int work, Work w) {
            List<Work> changed = new ArrayList<>(works);
            changed.set(work, w);
            return new Rights(lands, authors, List.copyOf(changed));
        }

        boolean fits(int work) {
            Work w = works.get(work);
            return w.origin >= 0 && w.origin < lands.size() && w.made >= 1500 && w.made <= 2099
                    && (w.published == 0 || w.published >= w.made && w.published <= 2099)
                    && w.authors >= 0 && w.authors < Math.pow(2, authors.size())
                    && (w.authors != 0 || w.kind == 'p' || w.kind == 'n');
        }

        int actInForce(int land, int year) {
            int found = 0;
            for (int i = 0; i < lands.get(land).size(); i++) {
                if (lands.get(land).get(i).year <= year) found = i;
            }
            return found;
        }

        List<Author> authorsOf(Work w) {
            List<Author> found = new ArrayList<>();
            for (int i = 0; i < authors.size(); i++) {
                if (w.authors / (1 << i) % 2 == 1) found.add(authors.get(i));
            }
            return found;
        }

        int doubt(Work w) {
            return Math.min(60, authorsOf(w).stream().mapToInt(a -> a.to - a.from).max().orElse(0));
        }

        int term(Work w, Act a, int k) {
            if (w.kind == 'p') return w.made + a.pictures;
            if (w.kind == 'n') {
                boolean soon = w.published != 0 && w.published - w.made <= a.pub;
                return soon ? w.published + a.pub : w.made + a.pub;
            }
            List<Author> all = authorsOf(w);
            int counting = all.size();
            if (w.kind == 'b' && !a.joint()) counting = 1;
            if (w.kind == 'f') counting = Math.min(2, all.size());
            int d = all.subList(0, counting).stream().mapToInt(x -> x.death(k)).max().orElseThrow();
            if (d == NEVER) return NEVER;
            return w.published > d + a.life ? w.published + a.late : d + a.life;
        }

        int termIn(Work w, int land, int year, int k) {
            Act a = lands.get(land).get(actInForce(land, year));
            int own = term(w, a, k);
            if (!a.compares() || land == w.origin) return own;
            return Math.min(own, term(w, lands.get(w.origin).get(actInForce(w.origin, year)), k));
        }
    }

    /** A chain, with the years that are protected as a set. */
    static final class Chain {
        int last;
        int back = 0;
        int changed = NONE;
        final TreeSet<Integer> events = new TreeSet<>();
        final BitSet years = new BitSet();

        Chain(Rights r, Work w, int land, int k) {
            List<Act> acts = r.lands.get(land);
            int first = acts.get(0).year;
            acts.forEach(a -> events.add(a.year));
            if (acts.stream().anyMatch(Act::compares)) r.lands.get(w.origin).forEach(a -> events.add(a.year));
            events.removeIf(y -> y <= first);
            last = r.termIn(w, land, first, k);
            BitSet gaps = new BitSet();
            for (int year : events) {
                int next = r.termIn(w, land, year, k);
                int was = last;
                Act a = acts.get(r.actInForce(land, year));
                if (last >= year) {
                    int becomes = a.keeps() && last > next ? last : next;
                    last = becomes < year - 1 ? year - 1 : becomes;
                } else if (a.revives() && next >= year) {
                    back++;
                    gaps.set(last + 1, year);
                    last = next;
                }
                if (was != last) changed = year;
            }
            if (last >= w.made) years.set(w.made, last + 1);
            years.andNot(gaps);
        }

        int free() {
            return last == NEVER ? NEVER : last + 1;
        }
    }

    private static final class Fault extends Exception {
        private static final long serialVersionUID = 1L;
        final int place;
        final int number;

        Fault(int place, int number) {
            super("fault " + number, null, false, false);
            this.place = place;
            this.number = number;
        }
    }

    private record Token(String text, int place) {
        boolean isNumber() { return text.matches("[0-9]{1,4}"); }
        boolean is(String one) { return text.equals(one); }
    }

    /** Eager tokens, then a descent that throws its first fault. */
    private static final class Parser {
        private final List<Token> tokens = new ArrayList<>();
        private int at = 0;

        Parser(String text) {
            Matcher m = Pattern.compile("[0-9]+|.", Pattern.DOTALL).matcher(text);
            while (m.find()) tokens.add(new Token(m.group(), m.start()));
            tokens.add(new Token("", text.length()));
        }

        private Token token() { return tokens.get(at); }

        private void sign(String sign) throws Fault {
            if (!token().is(sign)) throw new Fault(token().place, 1);
            at++;
        }

        private int number(int least, int most, boolean zeroToo) throws Fault {
            if (!token().isNumber()) throw new Fault(token().place, 1);
            int v = Integer.parseInt(token().text);
            if ((v < least || v > most) && !(zeroToo && v == 0)) throw new Fault(token().place, 2);
            at++;
            return v;
        }

        private void letter(String letters, int there, int room) throws Fault {
            if (token().text.length() != 1 || !letters.contains(token().text)) throw new Fault(token().place, 1);
            if (there == room) throw new Fault(token().place, 3);
            at++;
        }

        Rights parse() throws Fault {
            List<List<Act>> lands = new ArrayList<>();
            do {
                letter("l", lands.size(), 4);
                lands.add(acts());
            } while (token().is("l"));
            List<Author> authors = new ArrayList<>();
            while (token().is("a")) {
                letter("a", authors.size(), 8);
                authors.add(author());
            }
            List<Work> works = new ArrayList<>();
            while (!token().is("")) {
                char kind = token().text.charAt(0);
                letter("bspfn", works.size(), 6);
                works.add(work(kind, lands.size(), authors.size()));
            }
            return new Rights(List.copyOf(lands), List.copyOf(authors), List.copyOf(works));
        }

        private List<Act> acts() throws Fault {
            List<Act> acts = new ArrayList<>();
            do {
                letter("y", acts.size(), 4);
                int year = number(acts.isEmpty() ? 1700 : acts.get(acts.size() - 1).year + 1, 2099, false);
                sign(",");
                int life = number(0, 99, false);
                sign(",");
                int pub = number(0, 99, false);
                sign(",");
                int pictures = number(0, 99, false);
                sign(",");
                int late = number(0, 50, false);
                sign(",");
                int flags = number(0, 15, false);
                sign(";");
                acts.add(new Act(year, life, pub, pictures, late, flags));
            } while (token().is("y"));
            return List.copyOf(acts);
        }

        private Author author() throws Fault {
            if (token().is(";")) {
                at++;
                return new Author(0, 0);
            }
            int from = number(1500, 2099, false);
            sign(",");
            int to = number(from, 2099, false);
            sign(";");
            return new Author(from, to);
        }

        private Work work(char kind, int lands, int authors) throws Fault {
            int origin = number(0, lands - 1, false);
            sign(",");
            int made = number(1500, 2099, false);
            sign(",");
            int published = number(made, 2099, true);
            sign(",");
            int set = number(kind == 'p' || kind == 'n' ? 0 : 1, (1 << authors) - 1, false);
            sign(";");
            return new Work(kind, origin, made, published, set);
        }
    }

    private final StringBuilder tape = new StringBuilder();
    private int latestFault = 0;
    private Rights now = new Rights(List.of(), List.of(), List.of());
    private final Deque<Rights> past = new ArrayDeque<>();
    private final Rights[] images = new Rights[2];

    private void becomes(Rights r) {
        past.addLast(now);
        if (past.size() > 12) past.removeFirst();
        now = r;
    }

    private static boolean in(int v, int least, int most) { return v >= least && v <= most; }
    private boolean noLand(int land) { return !in(land, 0, now.lands.size() - 1); }
    private boolean noAct(int land, int act) { return noLand(land) || !in(act, 0, now.lands.get(land).size() - 1); }
    private boolean noAuthor(int author) { return !in(author, 0, now.authors.size() - 1); }
    private boolean noWork(int work) { return !in(work, 0, now.works.size() - 1); }

    int feed(int letter) {
        if (!in(letter, 0, 255)) return BAD;
        if (tape.length() == 250) return FULL;
        tape.append((char) letter);
        return tape.length();
    }

    int rights() {
        String text = tape.toString();
        tape.setLength(0);
        try {
            now = new Parser(text).parse();
            past.clear();
            return now.works.size();
        } catch (Fault f) {
            latestFault = f.number;
            return -1000100 - f.place;
        }
    }

    int fault() { return latestFault; }

    int undo() {
        if (past.isEmpty()) return STATE;
        now = past.removeLast();
        return past.size();
    }

    int enact(int land, int year, int life, int flags) {
        if (noLand(land)) return BAD;
        List<Act> acts = new ArrayList<>(now.lands.get(land));
        Act ahead = acts.get(acts.size() - 1);
        if (!in(year, ahead.year + 1, 2099) || !in(life, 0, 99) || !in(flags, 0, 15)) return BAD;
        if (acts.size() == 4) return FULL;
        acts.add(new Act(year, life, ahead.pub, ahead.pictures, ahead.late, flags));
        becomes(now.withLand(land, acts));
        return acts.size() - 1;
    }

    int repeal(int land) {
        if (noLand(land)) return BAD;
        List<Act> acts = new ArrayList<>(now.lands.get(land));
        if (acts.size() == 1) return STATE;
        acts.remove(acts.size() - 1);
        becomes(now.withLand(land, acts));
        return acts.size();
    }

    int alter(int land, int act, int which, int v) {
        if (noAct(land, act) || !in(which, 1, 5) || !in(v, 0, which == 4 ? 50 : which == 5 ? 15 : 99)) return BAD;
        Act was = now.lands.get(land).get(act);
        becomes(now.withAct(land, act, was.with(which, v)));
        return was.number(which);
    }

    int die(int author, int from, int to) {
        if (noAuthor(author)) return BAD;
        boolean alive = from == 0 && to == 0;
        if (!alive && (!in(from, 1500, 2099) || !in(to, from, 2099))) return BAD;
        Author was = now.authors.get(author);
        Author is = new Author(from, to);
        becomes(now.withAuthor(author, is));
        return was.equals(is) ? 0 : 1;
    }

    int change(int work, int which, int v) {
        if (noWork(work) || !in(which, 1, 4)) return BAD;
        Rights then = now.withWork(work, now.works.get(work).with(which, v));
        if (!then.fits(work)) return BAD;
        int was = work(work, which);
        becomes(then);
        return was;
    }

    int act(int land, int act, int what) {
        return noAct(land, act) || !in(what, 0, 5) ? BAD : now.lands.get(land).get(act).number(what);
    }

    int author(int author, int what) {
        if (noAuthor(author) || !in(what, 0, 3)) return BAD;
        if (what == 0) return now.authors.get(author).from;
        if (what == 1) return now.authors.get(author).to;
        int found = 0;
        for (int i = 0; i < now.works.size(); i++) {
            Work w = now.works.get(i);
            boolean by = w.authors / (1 << author) % 2 == 1;
            if (by && (what == 2 || decides(i, w.with(4, w.authors - (1 << author))))) found++;
        }
        return found;
    }

    private boolean decides(int work, Work without) {
        Rights then = now.withWork(work, without);
        if (!then.fits(work)) return true;
        for (int land = 0; land < now.lands.size(); land++) {
            if (edge(now, work, land, false) != edge(then, work, land, false)
                    || edge(now, work, land, true) != edge(then, work, land, true)) return true;
        }
        return false;
    }

    /** EARLIEST, or LATEST, of all k. */
    private static int edge(Rights r, int work, int land, boolean latest) {
        Work w = r.works.get(work);
        List<Integer> all = new ArrayList<>();
        for (int k = 0; k <= r.doubt(w); k++) all.add(new Chain(r, w, land, k).free());
        return all.stream().max(latest ? Comparator.naturalOrder() : Comparator.reverseOrder()).orElseThrow();
    }

    private Chain chain(int work, int land, int k) {
        return new Chain(now, now.works.get(work), land, k);
    }

    int work(int work, int what) {
        if (noWork(work) || !in(what, 0, 4)) return BAD;
        Work w = now.works.get(work);
        return List.of("?bspfn".indexOf(w.kind), w.origin, w.made, w.published, w.authors).get(what);
    }

    int as(int work, int kind) {
        if (noWork(work) || !in(kind, 0, 5)) return BAD;
        int own = work(work, 0);
        return kind == 0 || kind == own || kind == 1 && own == 2 ? work : NONE;
    }

    int inForce(int land, int year) {
        return noLand(land) || !in(year, 1500, 2299) ? BAD : now.actInForce(land, year);
    }

    int term(int work, int land, int act, int what) {
        if (noWork(work) || noAct(land, act) || !in(what, 0, 1)) return BAD;
        Work w = now.works.get(work);
        return now.term(w, now.lands.get(land).get(act), what == 0 ? 0 : now.doubt(w));
    }

    int free(int work, int land, int what) {
        if (noWork(work) || noLand(land) || !in(what, 0, 4)) return BAD;
        if (what < 2) return edge(now, work, land, what == 1);
        Chain c = chain(work, land, 0);
        return what == 2 ? c.back : what == 3 ? c.events.size() : c.changed;
    }

    int isProtected(int work, int land, int year) {
        if (noWork(work) || noLand(land) || !in(year, 1500, 2299)) return BAD;
        int yes = 0;
        int most = now.doubt(now.works.get(work));
        for (int k = 0; k <= most; k++) {
            if (chain(work, land, k).years.get(year)) yes++;
        }
        return yes == 0 ? 0 : yes == most + 1 ? 1 : 2;
    }

    int span(int work, int land, int i, int what) {
        if (noWork(work) || noLand(land) || i < 0 || !in(what, 0, 1)) return BAD;
        BitSet years = chain(work, land, 0).years;
        int start = years.nextSetBit(0);
        for (int row = 0; start >= 0; row++) {
            int end = years.nextClearBit(start);
            if (row == i) return what == 0 ? start : end - 1;
            start = years.nextSetBit(end);
        }
        return NONE;
    }

    int everywhere(int work, int what) {
        if (noWork(work) || !in(what, 0, 3)) return BAD;
        int bestLand = 0;
        int inAll = 0;
        int unlike = 0;
        for (int land = 0; land < now.lands.size(); land++) {
            int early = edge(now, work, land, false);
            int late = edge(now, work, land, true);
            if (early < edge(now, work, bestLand, false)) bestLand = land;
            inAll = Math.max(inAll, late);
            if (early != late) unlike++;
        }
        return List.of(bestLand, edge(now, work, bestLand, false), inAll, unlike).get(what);
    }

    int next(int year, int i, int what) {
        if (now.lands.isEmpty()) return STATE;
        if (!in(year, 1500, 2299) || i < 0 || !in(what, 0, 1)) return BAD;
        List<int[]> all = new ArrayList<>();
        for (int work = 0; work < now.works.size(); work++) {
            for (int land = 0; land < now.lands.size(); land++) {
                int free = edge(now, work, land, false);
                if (free >= year && free != NEVER) all.add(new int[] {free, 10 * land + work});
            }
        }
        all.sort((a, b) -> a[0] != b[0] ? a[0] - b[0] : a[1] - b[1]);
        return i < all.size() ? all.get(i)[what] : NONE;
    }

    int longer(int work, int land, int n) {
        if (noWork(work) || noLand(land) || !in(n, -50, 50)) return BAD;
        int act = now.lands.get(land).size() - 1;
        Act last = now.lands.get(land).get(act);
        int life = Math.min(99, Math.max(0, last.life + n));
        int before = edge(now, work, land, true);
        int then = edge(now.withAct(land, act, last.with(1, life)), work, land, true);
        return before == NEVER || then == NEVER ? NONE : then - before;
    }

    int image(int k) {
        if (!in(k, 0, 1)) return BAD;
        if (now.lands.isEmpty()) return STATE;
        images[k] = now;
        return 1;
    }

    int restore(int k) {
        if (!in(k, 0, 1)) return BAD;
        if (images[k] == null) return STATE;
        now = images[k];
        past.clear();
        return 1;
    }

    int count(int what) {
        if (!in(what, 0, 5)) return BAD;
        int acts = now.lands.stream().mapToInt(List::size).sum();
        return List.of(now.lands.size(), acts, now.authors.size(), now.works.size(), past.size(), tape.length()).get(what);
    }
}
