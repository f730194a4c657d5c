import java.lang.reflect.Method;
import java.util.Arrays;
import java.util.HashMap;
import java.util.Map;

/** An object under test: its calls go by name and are counted, as nothing is promised of an object behind its 512th. */
final class Subject {
    static final int NONE = -1000000, BAD = -1000001, STATE = -1000002, FULL = -1000003;
    static final int NEVER = 9999, FAULT = -1000100;
    static final int MIN = Integer.MIN_VALUE, MAX = Integer.MAX_VALUE;

    /** The shortest text: one land with one act. */
    static final String LAND = "ly1700,0,0,0,0,0;";
    private static final String BUSY = "ly1900,50,60,25,10,0;y1960,70,71,50,20,6;ly1920,60,50,30,5,9;"
            + "a1900,1910;a;b0,1880,1890,1;p1,1930,0,0;";

    private static final int MAX_CALLS = 512;
    private static final Map<String, Method> METHODS = new HashMap<>();

    static {
        for (Method m : RightTerms.class.getMethods()) {
            METHODS.put(m.getName(), m);
        }
    }

    private final RightTerms inner = new RightTerms();
    private int calls = 0;

    int call(String name, int... args) {
        calls++;
        if (calls > MAX_CALLS) {
            throw new IllegalStateException("a test makes more than 512 calls: " + told(name, args));
        }
        try {
            return (Integer) METHODS.get(name).invoke(inner, Arrays.stream(args).boxed().toArray());
        } catch (ReflectiveOperationException e) {
            throw new IllegalStateException(told(name, args), e);
        }
    }

    static String told(String name, int... args) {
        String row = Arrays.toString(args);
        return name + "(" + row.substring(1, row.length() - 1) + ")";
    }

    Subject feed(String text) {
        for (int i = 0; i < text.length(); i++) {
            call("feed", text.charAt(i));
        }
        return this;
    }

    /** The same call again and again. */
    Subject times(int n, String name, int... args) {
        for (int i = 0; i < n; i++) {
            call(name, args);
        }
        return this;
    }

    /** A new object that has read a text. */
    static Subject read(String text) {
        Subject x = new Subject().feed(text);
        int answer = x.call("rights");
        if (answer < 0) {
            throw new IllegalStateException(text + " was not read: " + answer + ", fault " + x.call("fault"));
        }
        return x;
    }

    /**
     * An object with something of all there is: 2 lands with 2 acts (1900, 1960) and 1 (1920), 2 authors (1900 to 1910;
     * lives), a book and a picture, 2 deeds, image 0 (not image 1), a fault (2), two bytes on the tape.
     */
    static Subject busy() {
        Subject x = read(BUSY).feed("ly9");
        x.call("rights");
        x.call("image", 0);
        x.call("alter", 0, 1, 2, 72);
        x.call("change", 1, 2, 1931);
        return x.feed("ly");
    }

    /** 4 lands with 4 acts each (1700, 1801, 1802, 1803), 8 authors (who live), 6 pictures, 12 deeds. */
    static Subject full() {
        Subject x = read("ly1700,0,0,0,0,0;y1801,0,0,0,0,0;y1802,0,0,0,0,0;ly1700,0,0,0,0,0;ly1700,0,0,0,0,0;ly1700,0,0,0,0,0;"
                + "a;a;a;a;a;a;a;a;p0,1500,0,0;p0,1500,0,0;p0,1500,0,0;p0,1500,0,0;p0,1500,0,0;p0,1500,0,0;");
        for (int land = 0; land < 4; land++) {
            for (int year = land == 0 ? 1803 : 1801; year <= 1803; year++) {
                x.call("enact", land, year, 0, 0);
            }
        }
        return x.times(2, "die", 0, 0, 0);
    }

    /** The numbers of the RIGHTS, and what they come to. */
    String rights() {
        StringBuilder s = new StringBuilder();
        int lands = call("count", 0);
        int works = call("count", 3);
        for (int land = 0; land < lands; land++) {
            s.append("\nland");
            for (int act = 0; call("act", land, act, 0) != BAD; act++) {
                s.append(numbers("act", 6, land, act));
            }
        }
        for (int author = 0; call("author", author, 0) != BAD; author++) {
            s.append(numbers("author", 2, author));
        }
        for (int work = 0; work < works; work++) {
            s.append(numbers("work", 5, work));
            for (int land = 0; land < lands; land++) {
                s.append(" free ").append(call("free", work, land, 1));
            }
        }
        return s.toString();
    }

    private String numbers(String name, int size, int... of) {
        StringBuilder s = new StringBuilder("\n").append(name);
        int[] args = Arrays.copyOf(of, of.length + 1);
        for (int what = 0; what < size; what++) {
            args[of.length] = what;
            s.append(' ').append(call(name, args));
        }
        return s.toString();
    }

    /** All that can be seen of it. Undoes, restores and reads to see it, so the object is of no use then. */
    String whole() {
        StringBuilder s = new StringBuilder();
        s.append("fault ").append(call("fault"));
        s.append("\ndeeds ").append(call("count", 4)).append(", bytes ").append(call("count", 5));
        s.append(rights());
        for (int left = call("undo"); left != STATE; left = call("undo")) {
            s.append("\nundone, left ").append(left).append(rights());
        }
        for (int k = 0; k < 2; k++) {
            int restored = call("restore", k);
            s.append("\nimage ").append(k).append(' ').append(restored).append(restored == 1 ? rights() : "");
        }
        s.append("\nthe tape ").append(call("rights")).append(" fault ").append(call("fault")).append(rights());
        return s.toString();
    }
}
