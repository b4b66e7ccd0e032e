import java.math.BigInteger;
import java.util.function.IntSupplier;

/** Counts answers that are not the ones that are due, and tells the machine so at the end. */
final class Check {
    static final int NONE = -1;
    static final int UNKNOWN = -1001;
    static final int OUTSIDE = -1002;
    static final int STATE = -1003;
    static final int FULL = -1004;

    private final String name;
    private String sentence = "";
    private int asked = 0;
    private int wrong = 0;

    Check(String name) {
        this.name = name;
    }

    /** Names the promise and the document's own words that the checks from here on hold to. */
    void about(int promise, String words) {
        sentence = promise + " '" + words + "': ";
    }

    void due(String call, long got, long want) {
        asked++;
        if (got != want) {
            wrong++;
            System.out.println(name + ": " + sentence + call + " answered " + got + ", due is " + want);
        }
    }

    void holds(String what, boolean is) {
        due(what, is ? 1 : 0, 1);
    }

    /** Asks several answers at once: a row that a test tells is easier to read than a call a line. */
    void row(String calls, long[] got, long... want) {
        due(calls + " (how many)", got.length, want.length);
        for (int i = 0; i < Math.min(got.length, want.length); i++) {
            due(calls + " [" + i + "]", got[i], want[i]);
        }
    }

    /** A call that is refused: its answer, and that nothing which can be seen is another one behind it. */
    void refused(MovedMembers x, String call, IntSupplier asks, int want) {
        long before = x.digest();
        due(call, asks.getAsInt(), want);
        due(call + " changes nothing", x.digest(), before);
    }

    void end() {
        System.out.println(name + ": " + (asked - wrong) + " of " + asked + " answers are as due");
        if (wrong != 0 || asked == 0) {
            System.exit(1);
        }
    }

    static void page(MovedMembers x, String text) {
        for (int i = 0; i < text.length(); i++) {
            x.letter(text.charAt(i));
        }
    }

    static int tell(MovedMembers x, String text) {
        x.blank();
        page(x, text);
        return x.type();
    }

    static MovedMembers told(String... texts) {
        MovedMembers x = new MovedMembers();
        for (int i = 0; i < texts.length; i++) {
            if (tell(x, texts[i]) != i) {
                throw new IllegalStateException("a test's own text is no class: " + texts[i]);
            }
        }
        return x;
    }

    static long[] of(MovedMembers x, int type) {
        long[] row = new long[7];
        for (int what = 0; what < 7; what++) {
            row[what] = x.of(type, what);
        }
        return row;
    }

    static long[] has(MovedMembers x, int type) {
        long[] row = new long[12];
        for (int member = 0; member < 12; member++) {
            row[member] = x.has(type, member);
        }
        return row;
    }

    /** Which event and its number, one behind the other. */
    static long[] events(MovedMembers x, int type, int method) {
        int size = Math.max(0, x.trace(type, method, 0));
        long[] row = new long[2 * size];
        for (int event = 0; event < size; event++) {
            row[2 * event] = x.event(type, method, event, 0);
            row[2 * event + 1] = x.event(type, method, event, 1);
        }
        return row;
    }

    static long[] counts(MovedMembers x) {
        long[] row = new long[9];
        for (int what = 0; what < 9; what++) {
            row[what] = x.count(what);
        }
        return row;
    }

    /** The digest of these numbers, reckoned without a bound and cut to a long at the end alone. */
    static long digestOf(long... numbers) {
        BigInteger h = BigInteger.valueOf(1663);
        for (long number : numbers) {
            h = h.multiply(BigInteger.valueOf(31)).add(BigInteger.valueOf(number));
        }
        return h.longValue();
    }

    /** All that can be seen of an object, but for how many moves were done and undone ever. */
    static String seen(MovedMembers x) {
        StringBuilder all = new StringBuilder();
        for (int type = 0; type < x.count(1); type++) {
            all.append(java.util.Arrays.toString(of(x, type))).append(java.util.Arrays.toString(has(x, type)));
            for (int method = 0; method < 6; method++) {
                all.append(java.util.Arrays.toString(events(x, type, method)));
            }
        }
        for (int what : new int[] {0, 1, 2, 4, 7, 8}) {
            all.append(x.count(what)).append(' ');
        }
        return all.toString();
    }
}
