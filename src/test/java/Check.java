/** Counts answers that are not the ones that are due, and tells the machine so at the end. */
final class Check {
    static final int NONE = -1;
    static final int UNKNOWN = -1001;
    static final int OUTSIDE = -1002;
    static final int STATE = -1003;
    static final int FULL = -1004;

    private final String name;
    private int asked = 0;
    private int wrong = 0;

    Check(String name) {
        this.name = name;
    }

    void due(String call, long got, long want) {
        asked++;
        if (got != want) {
            wrong++;
            System.out.println(name + ": " + call + " answered " + got + ", due is " + want);
        }
    }

    void holds(String what, boolean is) {
        due(what, is ? 1 : 0, 1);
    }

    /** Asks several answers at once: a row that a test tells is easier to read than a call a line. */
    void row(String calls, long[] got, long... want) {
        due(calls + " (how many)", got.length, want.length);
        for (int i = 0; i < Math.min(got.length, want.length); i++) {
            due(calls + " [" + i + "]", got[i], want[i]);
        }
    }

    void end() {
        System.out.println(name + ": " + (asked - wrong) + " of " + asked + " answers are as due");
        if (wrong != 0 || asked == 0) {
            System.exit(1);
        }
    }

    static void page(MovedMembers x, String text) {
        for (int i = 0; i < text.length(); i++) {
            x.letter(text.charAt(i));
        }
    }

    static int tell(MovedMembers x, String text) {
        x.blank();
        page(x, text);
        return x.type();
    }

    static MovedMembers told(String... texts) {
        MovedMembers x = new MovedMembers();
        for (int i = 0; i < texts.length; i++) {
            if (tell(x, texts[i]) != i) {
                throw new IllegalStateException("a test's own text is no class: " + texts[i]);
            }
        }
        return x;
    }

    static long[] of(MovedMembers x, int type) {
        long[] row = new long[7];
        for (int what = 0; what < 7; what++) {
            row[what] = x.of(type, what);
        }
        return row;
    }

    static long[] has(MovedMembers x, int type) {
        long[] row = new long[12];
        for (int member = 0; member < 12; member++) {
            row[member] = x.has(type, member);
        }
        return row;
    }

    /** Which event and its number, one behind the other. */
    static long[] events(MovedMembers x, int type, int method) {
        int size = Math.max(0, x.trace(type, method, 0));
        long[] row = new long[2 * size];
        for (int event = 0; event < size; event++) {
            row[2 * event] = x.event(type, method, event, 0);
            row[2 * event + 1] = x.event(type, method, event, 1);
        }
        return row;
    }

    /** All that can be seen of an object, but for how many moves were done and undone ever. */
    static String seen(MovedMembers x) {
        StringBuilder all = new StringBuilder();
        for (int type = 0; type < x.count(1); type++) {
            all.append(java.util.Arrays.toString(of(x, type))).append(java.util.Arrays.toString(has(x, type)));
            for (int method = 0; method < 6; method++) {
                all.append(java.util.Arrays.toString(events(x, type, method)));
            }
        }
        for (int what : new int[] {0, 1, 2, 4, 7, 8}) {
            all.append(x.count(what)).append(' ');
        }
        return all.toString();
    }
}
