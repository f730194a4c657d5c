import java.util.Random;

/** All promises: random runs of calls, each answer held against the model's. The seeds are fixed. */
final class ModelTest {
    private static final int RUNS = 1500, MAX_CALLS = 512;
    private static final String[] NAMES = {"undo", "enact", "repeal", "alter", "die", "change", "act", "author",
        "work", "as", "inForce", "term", "free", "isProtected", "span", "everywhere", "next", "longer", "image",
        "restore", "count", "fault"};

    private final Random random;
    private final RightTerms x = new RightTerms();
    private final Model m = new Model();
    private final StringBuilder told = new StringBuilder();
    private int calls = 0;
    private boolean wrong = false;

    private ModelTest(int seed) {
        random = new Random(seed);
    }

    public static void main(String[] args) {
        int asked = 0;
        for (int seed = 0; seed < RUNS; seed++) {
            ModelTest t = new ModelTest(seed);
            t.run();
            asked += t.calls;
            if (t.wrong) {
                System.out.println("seed " + seed + ":\n" + t.told);
                System.exit(1);
            }
        }
        System.out.println(asked + " answers, 0 unlike the model's");
    }

    private void run() {
        while (calls < MAX_CALLS && !wrong) {
            if (calls == 0 || random.nextInt(200) == 0) {
                String text = random.nextInt(3) == 0 ? denseText() : text();
                tell(random.nextInt(5) == 0 ? spoilt(text) : text);
            } else {
                ask(NAMES[random.nextInt(NAMES.length)]);
            }
        }
    }

    private void tell(String text) {
        told.append("feed ").append(text).append('\n');
        for (int i = 0; i < text.length() && calls < MAX_CALLS; i++) {
            compare("feed", x.feed(text.charAt(i)), m.feed(text.charAt(i)));
        }
        if (random.nextInt(20) > 0) {
            compare("rights()", x.rights(), m.rights());
            compare("fault()", x.fault(), m.fault());
        }
    }

    private void compare(String call, int got, int want) {
        calls++;
        if (!call.equals("feed")) {
            told.append(call).append(" = ").append(got).append('\n');
        }
        if (got != want) {
            wrong = true;
            told.append(call).append(" answered ").append(got).append(", the model ").append(want).append('\n');
        }
    }

    private int from(int least, int most) {
        return least + random.nextInt(most - least + 1);
    }

    /** Mostly a number of the range, sometimes one just outside it. */
    private int about(int least, int most) {
        int dice = random.nextInt(40);
        if (dice == 0) {
            return least - 1;
        }
        if (dice == 1) {
            return most + 1;
        }
        if (dice == 2) {
            return random.nextInt();
        }
        return from(least, most);
    }

    private int one(int size) {
        return about(0, Math.max(0, size - 1));
    }

    /** Years lie close together, so that acts, deaths and works meet. */
    private int year() {
        return random.nextInt(12) == 0 ? from(1500, 2099) : from(1860, 2040);
    }

    private String text() {
        StringBuilder s = new StringBuilder();
        int lands = from(1, 3);
        for (int i = 0; i < lands; i++) {
            s.append('l');
            int year = from(1700, 1960);
            int acts = from(1, i == 0 ? 3 : 2);
            for (int j = 0; j < acts; j++) {
                s.append('y').append(year).append(',').append(from(0, 80)).append(',').append(from(0, 99)).append(',')
                        .append(from(0, 99)).append(',').append(from(0, 50)).append(',').append(from(0, 15)).append(';');
                year += from(1, 45);
            }
        }
        int authors = from(0, 4);
        for (int i = 0; i < authors; i++) {
            int year = year();
            s.append('a');
            if (random.nextInt(5) > 0) {
                s.append(year).append(',').append(Math.min(2099, year + from(0, random.nextInt(4) == 0 ? 80 : 30)));
            }
            s.append(';');
        }
        int works = from(0, 5);
        for (int i = 0; i < works; i++) {
            int made = year();
            s.append((authors == 0 ? "pn" : "bbsspfffn").charAt(random.nextInt(authors == 0 ? 2 : 9)));
            s.append(from(0, lands - 1)).append(',').append(made).append(',');
            s.append(random.nextBoolean() ? 0 : Math.min(2099, made + from(0, 90))).append(',');
            s.append(authors == 0 ? 0 : from(1, (1 << authors) - 1)).append(';');
        }
        return s.toString();
    }

    /** Two lands of four acts, short terms: works become free and come back, often in one land by the other's acts. */
    private String denseText() {
        StringBuilder s = new StringBuilder();
        for (int land = 0; land < 2; land++) {
            int year = from(1890, 1910);
            s.append('l');
            for (int act = 0; act < 4; act++) {
                s.append('y').append(year).append(',').append(from(0, 60)).append(',').append(from(0, 60)).append(',')
                        .append(from(0, 60)).append(',').append(from(0, 20)).append(',')
                        .append(from(0, 15) | (random.nextInt(3) > 0 ? 12 : 0)).append(';');
                year += from(1, 25);
            }
        }
        for (int author = 0; author < 3; author++) {
            int year = from(1870, 1930);
            s.append('a').append(year).append(',').append(year + from(0, 40)).append(';');
        }
        for (int work = 0; work < 2; work++) {
            int made = from(1860, 1930);
            s.append("bspfn".charAt(random.nextInt(5))).append(from(0, 1)).append(',').append(made).append(',');
            s.append(random.nextBoolean() ? 0 : made + from(0, 40)).append(',').append(from(1, 7)).append(';');
        }
        return s.toString();
    }

    private String spoilt(String text) {
        StringBuilder s = new StringBuilder(text);
        int at = random.nextInt(s.length());
        String signs = "lyabspfn0123459,; AZ" + (char) 0 + (char) 200;
        char sign = signs.charAt(random.nextInt(signs.length()));
        switch (random.nextInt(5)) {
            case 0:
                s.deleteCharAt(at);
                break;
            case 1:
                s.insert(at, sign);
                break;
            case 2:
                s.setCharAt(at, sign);
                break;
            case 3:
                s.setLength(at);
                break;
            default:
                s.insert(at, text.substring(at, from(at, text.length())));
        }
        return s.toString();
    }

    private void ask(String name) {
        int land = one(m.count(0));
        int act = about(0, 3);
        int author = one(m.count(2));
        int work = one(m.count(3));
        int what = about(0, 5);
        int year = year();
        switch (name) {
            case "undo":
                compare("undo()", x.undo(), m.undo());
                break;
            case "fault":
                compare("fault()", x.fault(), m.fault());
                break;
            case "enact": {
                int life = about(0, 99);
                int flags = about(0, 15);
                compare(call(name, land, year, life, flags), x.enact(land, year, life, flags), m.enact(land, year, life, flags));
                break;
            }
            case "repeal":
                compare(call(name, land), x.repeal(land), m.repeal(land));
                break;
            case "alter": {
                int v = what == 5 ? about(0, 15) : what == 4 ? about(0, 50) : about(0, 99);
                compare(call(name, land, act, what, v), x.alter(land, act, what, v), m.alter(land, act, what, v));
                break;
            }
            case "die": {
                boolean lives = random.nextInt(6) == 0;
                int from = lives ? 0 : about(year, year);
                int to = lives ? 0 : about(from, from + 70);
                compare(call(name, author, from, to), x.die(author, from, to), m.die(author, from, to));
                break;
            }
            case "change": {
                int v = what == 1 ? land : what == 4 ? about(0, (1 << m.count(2)) - 1) : random.nextInt(5) == 0 ? 0 : year;
                compare(call(name, work, what, v), x.change(work, what, v), m.change(work, what, v));
                break;
            }
            default:
                askMore(name, land, act, author, work, what, year);
        }
    }

    private void askMore(String name, int land, int act, int author, int work, int what, int year) {
        int edge = about(0, 1);
        int asked = random.nextInt(4) == 0 ? about(1500, 2299) : year;
        switch (name) {
            case "act":
                compare(call(name, land, act, what), x.act(land, act, what), m.act(land, act, what));
                break;
            case "author": {
                int w = about(2, 3);
                compare(call(name, author, w), x.author(author, w), m.author(author, w));
                break;
            }
            case "work":
                compare(call(name, work, what), x.work(work, what), m.work(work, what));
                break;
            case "as":
                compare(call(name, work, what), x.as(work, what), m.as(work, what));
                break;
            case "inForce":
                compare(call(name, land, asked), x.inForce(land, asked), m.inForce(land, asked));
                break;
            case "term":
                compare(call(name, work, land, act, edge), x.term(work, land, act, edge), m.term(work, land, act, edge));
                break;
            case "free": {
                int w = about(0, 4);
                compare(call(name, work, land, w), x.free(work, land, w), m.free(work, land, w));
                break;
            }
            case "isProtected":
                compare(call(name, work, land, asked), x.isProtected(work, land, asked), m.isProtected(work, land, asked));
                break;
            case "span": {
                int i = about(0, 2);
                compare(call(name, work, land, i, edge), x.span(work, land, i, edge), m.span(work, land, i, edge));
                break;
            }
            case "everywhere": {
                int w = about(0, 3);
                compare(call(name, work, w), x.everywhere(work, w), m.everywhere(work, w));
                break;
            }
            case "next": {
                int i = about(0, 6);
                compare(call(name, asked, i, edge), x.next(asked, i, edge), m.next(asked, i, edge));
                break;
            }
            case "longer": {
                int n = about(-50, 50);
                compare(call(name, work, land, n), x.longer(work, land, n), m.longer(work, land, n));
                break;
            }
            case "image":
                compare(call(name, edge), x.image(edge), m.image(edge));
                break;
            case "restore":
                compare(call(name, edge), x.restore(edge), m.restore(edge));
                break;
            default:
                compare(call("count", what), x.count(what), m.count(what));
        }
    }

    private static String call(String name, int... args) {
        StringBuilder s = new StringBuilder(name).append('(');
        for (int i = 0; i < args.length; i++) {
            s.append(i == 0 ? "" : ", ").append(args[i]);
        }
        return s.append(')').toString();
    }
}
