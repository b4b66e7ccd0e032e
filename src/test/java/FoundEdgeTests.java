/** The edges that the document names for promises 8 to 13, each under the document's own words. */
public final class FoundEdgeTests {
    private static final Check CHECK = new Check("FoundEdgeTests");
    private static final int[] NO_WHATS = {-1, 2, 20, Integer.MIN_VALUE, Integer.MAX_VALUE};
    private static final int[] NO_TYPES = {-1, 2, 8, Integer.MIN_VALUE, Integer.MAX_VALUE};
    private static final int[] NO_METHODS = {-1, 6, 11, Integer.MIN_VALUE, Integer.MAX_VALUE};
    private static final int RUN = 0, ROUND = 1, USED = 2, MISSING = 3;

    public static void main(String[] args) {
        of();
        ofRefuses();
        has();
        answer();
        answerRefuses();
        body();
        bodyRefuses();
        traceOfTheLeast();
        calls();
        asks();
        uses();
        missing();
        rounds();
        sixtyEvents();
        theLastOfSixty();
        theFirstBehindSixty();
        atOnceAtMost();
        fortyAtOnce();
        traceRefuses();
        eventRefuses();
        CHECK.end();
    }

    private static void of() {
        CHECK.about(8, "what = 0 its PARENT (NONE)");
        MovedMembers x = Check.told("A:", "B<A:", "C<A:", "D<A:", "E<A:", "F<A:", "G<A:", "H<A:");
        CHECK.row("parents", new long[] {x.of(0, 0), x.of(1, 0), x.of(7, 0)}, Check.NONE, 0, 0);
        CHECK.about(8, "6 CLASSES right below it, as bits");
        CHECK.row("seven, none", new long[] {x.of(0, 6), x.of(1, 6), x.of(7, 6)}, 254, 0, 0);
        MovedMembers chain = Check.told("A:", "B<A:", "C<B:", "D<C:");
        CHECK.row("right below alone", new long[] {chain.of(0, 6), chain.of(1, 6), chain.of(2, 6), chain.of(3, 6)}, 2, 4, 8, 0);
        CHECK.about(8, "2 which METHODS it has, as bits, 3 which of these are HIDDEN, 4 which FIELDS, as bits (1 for 'u')");
        MovedMembers ends = Check.told("A:a-fuz", "B<A:", "C:b-c-");
        CHECK.row("the first and the last", Check.of(ends, 0), -1, 0, 33, 1, 33, 32, 2);
        CHECK.row("what lies above is not had", Check.of(ends, 1), 0, 0, 0, 0, 0, 32, 0);
        CHECK.row("all hidden", Check.of(ends, 2), -1, 0, 6, 6, 0, 0, 0);
    }

    private static void ofRefuses() {
        MovedMembers x = Check.told("A:a", "B<A:u");
        CHECK.about(8, "UNKNOWN; OUTSIDE.");
        for (int odd : NO_TYPES) {
            CHECK.refused(x, "of(" + odd + ", 0)", () -> x.of(odd, 0), Check.UNKNOWN);
            CHECK.due("unknown ahead of outside", x.of(odd, 7), Check.UNKNOWN);
        }
        for (int odd : new int[] {-1, 7, Integer.MIN_VALUE, Integer.MAX_VALUE}) {
            CHECK.refused(x, "of(1, " + odd + ")", () -> x.of(1, odd), Check.OUTSIDE);
        }
    }

    private static void has() {
        CHECK.about(9, "its BODY, or its SLOT; NONE: it does not have it.");
        MovedMembers x = Check.told("A:az", "B<A:fu");
        CHECK.row("A", Check.has(x, 0), 0, -1, -1, -1, -1, -1, -1, -1, -1, -1, -1, 11);
        CHECK.row("B has nothing by A", Check.has(x, 1), -1, -1, -1, -1, -1, 1, 18, -1, -1, -1, -1, -1);
        CHECK.about(9, "UNKNOWN: type, member (0 to 11).");
        for (int odd : NO_TYPES) {
            CHECK.refused(x, "has(" + odd + ", 0)", () -> x.has(odd, 0), Check.UNKNOWN);
        }
        for (int odd : new int[] {-1, 12, Integer.MIN_VALUE, Integer.MAX_VALUE}) {
            CHECK.refused(x, "has(0, " + odd + ")", () -> x.has(0, odd), Check.UNKNOWN);
        }
    }

    private static long[] answers(MovedMembers x, int method, int... types) {
        long[] row = new long[2 * types.length];
        for (int n = 0; n < types.length; n++) {
            row[2 * n] = x.answer(types[n], method, 0);
            row[2 * n + 1] = x.answer(types[n], method, 1);
        }
        return row;
    }

    private static void answer() {
        CHECK.about(10, "by the BODY in the nearest one that has it so (it itself first)");
        MovedMembers x = Check.told("A:a", "B<A:", "C<B:a", "D<C:", "E:b");
        CHECK.row("down a chain", answers(x, 0, 0, 1, 2, 3, 4), 0, 0, 0, 0, 1, 2, 1, 2, -1, -1);
        CHECK.row("not from below, not from the side", answers(x, 1, 0, 3, 4), -1, -1, -1, -1, 2, 4);
        MovedMembers first = Check.told("A:ab", "B<A:");
        CHECK.row("a body that has not the number of its class", answers(first, 1, 0, 1), 1, 0, 1, 0);
        CHECK.about(10, "(its PARENT, the PARENT of that, and so on), has it, not HIDDEN");
        MovedMembers hidden = Check.told("A:f", "B<A:f-", "C<B:f-", "D<C:", "E:f-", "F<E:");
        CHECK.row("hidden ones are passed over", answers(hidden, 5, 1, 2, 3), 0, 0, 0, 0, 0, 0);
        CHECK.row("all are hidden", answers(hidden, 5, 4, 5), -1, -1, -1, -1);
        MovedMembers deep = Check.told("A:a", "B<A:a-", "C<B:a-", "D<C:a-", "E<D:a-", "F<E:a-", "G<F:a-", "H<G:a-");
        CHECK.row("over seven", answers(deep, 0, 7), 0, 0);
    }

    private static void answerRefuses() {
        MovedMembers x = Check.told("A:a", "B<A:u");
        CHECK.about(10, "UNKNOWN: type, method (0 to 5); OUTSIDE.");
        for (int odd : NO_TYPES) {
            CHECK.refused(x, "answer(" + odd + ", 0, 0)", () -> x.answer(odd, 0, 0), Check.UNKNOWN);
            CHECK.due("unknown type ahead of outside", x.answer(odd, 0, 2), Check.UNKNOWN);
        }
        for (int odd : NO_METHODS) {
            CHECK.refused(x, "answer(0, " + odd + ", 0)", () -> x.answer(0, odd, 0), Check.UNKNOWN);
            CHECK.due("unknown method ahead of outside", x.answer(0, odd, 2), Check.UNKNOWN);
        }
        for (int odd : NO_WHATS) {
            CHECK.refused(x, "answer(1, 0, " + odd + ")", () -> x.answer(1, 0, odd), Check.OUTSIDE);
            CHECK.due("outside where it does not ANSWER", x.answer(1, 5, odd), Check.OUTSIDE);
        }
        CHECK.row("the last method", answers(x, 5, 0), -1, -1);
    }

    private static long[] items(MovedMembers x, int body) {
        return new long[] {x.body(body, 0), x.body(body, 10), x.body(body, 11), x.body(body, 12), x.body(body, 13),
            x.body(body, 14), x.body(body, 15)};
    }

    private static void body() {
        CHECK.about(11, "the number of its MEMBER, 20 more for an ASK (NONE: it has not so many)");
        MovedMembers x = Check.told("A:a(afuz^a^f)b-c(z)", "B:f(bbbbb)");
        CHECK.row("six", items(x, 0), 6, 0, 5, 6, 11, 20, 25);
        CHECK.row("none", items(x, 1), 0, -1, -1, -1, -1, -1, -1);
        CHECK.row("one", items(x, 2), 1, 11, -1, -1, -1, -1, -1);
        CHECK.row("five", items(x, 3), 5, 1, 1, 1, 1, 1, -1);
        x.drop();
        CHECK.row("a number that comes again has its own items alone", new long[] {Check.tell(x, "B:e(y)"), x.body(3, 0),
            x.body(3, 10), x.body(3, 11), x.body(3, 15)}, 1, 1, 10, -1, -1);
        MovedMembers full = Check.told("A:abcdef", "B:abcdef", "C:abcdef", "D:abcdef", "E:abcdef", "F:abcdef", "G:abcd(uuuuu^a)");
        CHECK.row("the fortieth", items(full, 39), 6, 6, 6, 6, 6, 6, 20);
        CHECK.due("none behind it", full.body(40, 0), Check.UNKNOWN);
    }

    private static void bodyRefuses() {
        MovedMembers x = Check.told("A:a", "B:b(u)");
        CHECK.about(11, "UNKNOWN; OUTSIDE.");
        for (int odd : NO_TYPES) {
            CHECK.refused(x, "body(" + odd + ", 0)", () -> x.body(odd, 0), Check.UNKNOWN);
            CHECK.due("unknown ahead of outside", x.body(odd, 9), Check.UNKNOWN);
        }
        for (int odd : new int[] {-1, 1, 9, 16, Integer.MIN_VALUE, Integer.MAX_VALUE}) {
            CHECK.refused(x, "body(1, " + odd + ")", () -> x.body(1, odd), Check.OUTSIDE);
        }
    }

    private static void traceOfTheLeast() {
        CHECK.about(12, "how many EVENTS, 1 how many BODIES run at once at most; NONE: it does not ANSWER it.");
        MovedMembers x = Check.told("A:ab-", "B<A:");
        CHECK.row("a body without items", new long[] {x.trace(0, 0, 0), x.trace(0, 0, 1), x.trace(1, 0, 0)}, 1, 1, 1);
        CHECK.row("a hidden one", new long[] {x.trace(0, 1, 0), x.trace(0, 1, 1), x.trace(1, 1, 0)}, -1, -1, -1);
        CHECK.row("one that is not there", new long[] {x.trace(1, 5, 0), x.trace(1, 5, 1)}, -1, -1);
        x.hollow(0, true);
        CHECK.row("an ABSTRACT class has a TRACE", new long[] {x.trace(0, 0, 0), x.event(0, 0, 0, 0)}, 1, 0);
    }

    private static void runs(MovedMembers x, int type, int method, long... events) {
        CHECK.row("events of " + type + ", " + method, Check.events(x, type, method), events);
    }

    private static void calls() {
        CHECK.about(13, "a CALL: if D has that METHOD HIDDEN, its BODY in D");
        MovedMembers x = Check.told("A:a(b)b-", "B<A:b");
        runs(x, 1, 0, RUN, 0, RUN, 1);
        runs(Check.told("A:a(a)b", "B<A:a-(a)b(a)"), 1, 1, RUN, 3, RUN, 2, ROUND, 2);
        CHECK.about(13, "else that by which C ANSWERS it");
        runs(Check.told("A:a(b)b", "B<A:b", "C<B:"), 2, 0, RUN, 0, RUN, 2);
        runs(Check.told("A:a(b)b", "B<A:b-"), 1, 0, RUN, 0, RUN, 1);
        runs(Check.told("A:a(b)", "B<A:b-"), 1, 0, RUN, 0, MISSING, 1);
        runs(Check.told("A:b-", "B<A:a(b)"), 1, 0, RUN, 1, MISSING, 1);
        runs(Check.told("A:a(b)", "B<A:b"), 0, 0, RUN, 0, MISSING, 1);
    }

    private static void asks() {
        CHECK.about(13, "An ASK: that by which the PARENT of D ANSWERS it.");
        runs(Check.told("A:a(^a)"), 0, 0, RUN, 0, MISSING, 0);
        runs(Check.told("A:b", "B<A:a(^b)b"), 1, 0, RUN, 1, RUN, 0);
        runs(Check.told("A:b", "B<A:b-", "C<B:a(^b)"), 2, 0, RUN, 2, RUN, 0);
        runs(Check.told("A:b-", "B<A:a(^b)b"), 1, 0, RUN, 1, MISSING, 1);
        runs(Check.told("A:b", "B<A:a(^b)b-"), 1, 0, RUN, 1, RUN, 0);
        CHECK.about(13, "that BODY runs, in the CLASS where it was found");
        runs(Check.told("A:b", "B<A:a(^b)b", "C<B:"), 2, 0, RUN, 1, RUN, 0);
        runs(Check.told("A:f", "B<A:f(^f)", "C<B:", "D<C:f(^f)"), 3, 5, RUN, 2, RUN, 1, RUN, 0);
    }

    private static void uses() {
        CHECK.about(13, "A USE: the SLOT in the nearest CLASS, D first, then those above it, that has the FIELD.");
        runs(Check.told("A:u", "B<A:a(u)u"), 1, 0, RUN, 0, USED, 18);
        runs(Check.told("A:u", "B<A:", "C<B:a(u)"), 2, 0, RUN, 0, USED, 6);
        runs(Check.told("A:a(u)u", "B<A:u"), 1, 0, RUN, 0, USED, 6);
        runs(Check.told("A:a(z)", "B<A:z"), 1, 0, RUN, 0, MISSING, 11);
        runs(Check.told("A:", "B:", "C:", "D:", "E:", "F:", "G:z", "H<G:a(z)z"), 7, 0, RUN, 0, USED, 95);
    }

    private static void missing() {
        CHECK.about(13, "MISSING: EVENT MISSING (3) with the number of the MEMBER.");
        runs(Check.told("A:a(f^fuz^b)"), 0, 0, RUN, 0, MISSING, 5, MISSING, 5, MISSING, 6, MISSING, 11, MISSING, 1);
    }

    private static void rounds() {
        CHECK.about(13, "a BODY that runs already (anywhere in what led here): EVENT ROUND (1) with its number");
        runs(Check.told("A:a(a)"), 0, 0, RUN, 0, ROUND, 0);
        runs(Check.told("A:a(b)b(c)c(ab)"), 0, 0, RUN, 0, RUN, 1, RUN, 2, ROUND, 0, ROUND, 1);
        runs(Check.told("A:a(bb)b(c)c"), 0, 0, RUN, 0, RUN, 1, RUN, 2, RUN, 1, RUN, 2);
        runs(Check.told("A:a(bc)b(c)c(b)"), 0, 0, RUN, 0, RUN, 1, RUN, 2, ROUND, 1, RUN, 2, RUN, 1, ROUND, 2);
        CHECK.about(13, "(A BODY, a SLOT can be in several CLASSES by that.)");
        MovedMembers x = Check.told("A:a(^au)", "B<A:u", "C<A:", "D<B:");
        for (int type = 0; type < 4; type++) {
            x.hollow(type, true);
        }
        CHECK.row("a to B and C, to D, from C to A", new long[] {x.move(0, 0, false), x.move(1, 0, false), x.move(2, 0, true)}, 1, 2, 3);
        runs(x, 3, 0, RUN, 0, ROUND, 0, USED, 18);
        runs(x, 1, 0, RUN, 0, MISSING, 0, MISSING, 6);
    }

    /** The body b has 43 events and c has 7; behind a, b, c, c there are 58. */
    private static MovedMembers behindFiftyEight(String behind, String others) {
        return Check.told("A:a(bcc" + behind + ")b(cccccc)c(uuuuuu)" + others);
    }

    private static void sixtyEvents() {
        CHECK.about(12, "A TRACE has 60 EVENTS at most: what would come behind is not there.");
        CHECK.due("58", behindFiftyEight("", "").trace(0, 0, 0), 58);
        CHECK.due("59", behindFiftyEight("v", "").trace(0, 0, 0), 59);
        CHECK.due("60", behindFiftyEight("vw", "").trace(0, 0, 0), 60);
        CHECK.due("61", behindFiftyEight("vwx", "").trace(0, 0, 0), 60);
        CHECK.due("far more", Check.told("A:a(bbbbbb)b(cccccc)c(dddddd)d(eeeeee)").trace(0, 0, 0), 60);
        MovedMembers own = Check.told("A:a(bbbbbb)b(cccccc)c(uuuuuu)d(ca)");
        CHECK.row("each TRACE by itself", new long[] {own.trace(0, 0, 0), own.trace(0, 1, 0), own.trace(0, 2, 0),
            own.trace(0, 3, 0)}, 60, 43, 7, 60);
        CHECK.about(13, "UNKNOWN: type, method, event");
        MovedMembers x = behindFiftyEight("vwx", "");
        CHECK.row("the last ones", new long[] {x.event(0, 0, 58, 0), x.event(0, 0, 58, 1), x.event(0, 0, 59, 0),
            x.event(0, 0, 59, 1)}, MISSING, 7, MISSING, 8);
        CHECK.refused(x, "the 61st", () -> x.event(0, 0, 60, 0), Check.UNKNOWN);
        CHECK.about(23, "8 EVENTS MISSING in all TRACES of CLASSES that have OBJECTS");
        CHECK.due("what is not there is not counted", x.count(8), 36 + 12 + 2 + 36 + 6);
        CHECK.about(22, "in no EVENT of any TRACE");
        MovedMembers dead = behindFiftyEight("vde", "d-e-");
        CHECK.row("the 60th runs, the 61st is not there", new long[] {dead.dead(3), dead.dead(4), dead.count(7)}, 0, 1, 1);
    }

    private static void theLastOfSixty() {
        CHECK.about(13, "A TRACE has 60 EVENTS at most");
        String[] last = {"d", "a", "y", "z", "^a"};
        int[] kinds = {RUN, ROUND, USED, MISSING, MISSING};
        int[] numbers = {3, 0, 10, 11, 0};
        for (int n = 0; n < last.length; n++) {
            MovedMembers x = behindFiftyEight("v" + last[n], "dy");
            CHECK.row("60th " + last[n], new long[] {x.trace(0, 0, 0), x.event(0, 0, 59, 0), x.event(0, 0, 59, 1),
                x.event(0, 0, 60, 0)}, 60, kinds[n], numbers[n], Check.UNKNOWN);
        }
    }

    private static void theFirstBehindSixty() {
        CHECK.about(13, "what would come behind is not there");
        for (String behind : new String[] {"d", "a", "y", "z", "^a"}) {
            MovedMembers x = behindFiftyEight("vw" + behind, "dy");
            CHECK.row("61st " + behind, new long[] {x.trace(0, 0, 0), x.event(0, 0, 59, 0), x.event(0, 0, 59, 1),
                x.event(0, 0, 60, 0)}, 60, MISSING, 8, Check.UNKNOWN);
        }
    }

    private static void atOnceAtMost() {
        CHECK.about(12, "1 how many BODIES run at once at most");
        MovedMembers x = Check.told("A:a(bb)b(c)c(ab)d(cc)e(e)");
        CHECK.row("those that ended do not count, nor rounds", new long[] {x.trace(0, 0, 1), x.trace(0, 1, 1), x.trace(0, 2, 1),
            x.trace(0, 3, 1), x.trace(0, 4, 1)}, 3, 3, 3, 4, 1);
        MovedMembers in = Check.told("A:a(bceeed)b(cccccc)c(uuuuuu)d(e)e(f)f");
        CHECK.row("the 60th runs, too", new long[] {in.trace(0, 0, 0), in.trace(0, 0, 1), in.event(0, 0, 59, 0),
            in.event(0, 0, 59, 1)}, 60, 4, RUN, 5);
        MovedMembers out = Check.told("A:a(bccd)b(cccccc)c(uuuuuu)d(e)e(f)f");
        CHECK.row("the 61st does not", new long[] {out.trace(0, 0, 0), out.trace(0, 0, 1), out.event(0, 0, 59, 1)}, 60, 3, 4);
    }

    /** All forty bodies open at once: hidden ones and asks lead through every class. */
    private static void fortyAtOnce() {
        CHECK.about(12, "1 how many BODIES run at once at most");
        MovedMembers x = Check.told("A:a(b)b(c)c(d)d(e)e(f)f(x)x", "B<A:a(b)b-(c)c-(d)d-(e)e-(f)f-(^a)",
            "C<B:a(b)b-(c)c-(d)d-(e)e-(f)f-(^a)", "D<C:a(b)b-(c)c-(d)d-(e)e-(f)f-(^a)",
            "E<D:a(b)b-(c)c-(d)d-(e)e-(f)f-(^a)", "F<E:a(b)b-(c)c-(d)d-(e)e-(f)f-(^a)",
            "G<F:a(bx)b-(c)c-(d)d-(^a)");
        CHECK.row("forty at once", new long[] {x.trace(6, 0, 0), x.trace(6, 0, 1)}, 42, 40);
        CHECK.row("its end", new long[] {x.event(6, 0, 39, 1), x.event(6, 0, 40, 0), x.event(6, 0, 40, 1),
            x.event(6, 0, 41, 0), x.event(6, 0, 41, 1)}, 5, 2, 9, 2, 9);
    }

    private static void traceRefuses() {
        MovedMembers x = Check.told("A:a", "B<A:u");
        CHECK.about(12, "UNKNOWN: type, method; OUTSIDE.");
        for (int odd : NO_TYPES) {
            CHECK.refused(x, "trace(" + odd + ", 0, 0)", () -> x.trace(odd, 0, 0), Check.UNKNOWN);
            CHECK.due("unknown type ahead of outside", x.trace(odd, 0, 2), Check.UNKNOWN);
        }
        for (int odd : NO_METHODS) {
            CHECK.refused(x, "trace(0, " + odd + ", 0)", () -> x.trace(0, odd, 0), Check.UNKNOWN);
            CHECK.due("unknown method ahead of outside", x.trace(0, odd, 2), Check.UNKNOWN);
        }
        for (int odd : NO_WHATS) {
            CHECK.refused(x, "trace(1, 0, " + odd + ")", () -> x.trace(1, 0, odd), Check.OUTSIDE);
            CHECK.due("outside where it does not ANSWER", x.trace(1, 5, odd), Check.OUTSIDE);
        }
    }

    private static void eventRefuses() {
        MovedMembers x = Check.told("A:a(u)b-", "B<A:u");
        CHECK.about(13, "UNKNOWN: type, method, event (it does not ANSWER it, too)");
        for (int odd : NO_TYPES) {
            CHECK.refused(x, "event(" + odd + ", 0, 0, 0)", () -> x.event(odd, 0, 0, 0), Check.UNKNOWN);
            CHECK.refused(x, "event(0, 0, " + odd + ", 0)", () -> x.event(0, 0, odd, 0), Check.UNKNOWN);
            CHECK.due("unknown type ahead of outside", x.event(odd, 0, 0, 2), Check.UNKNOWN);
            CHECK.due("unknown event ahead of outside", x.event(0, 0, odd, 2), Check.UNKNOWN);
        }
        for (int odd : NO_METHODS) {
            CHECK.refused(x, "event(0, " + odd + ", 0, 0)", () -> x.event(0, odd, 0, 0), Check.UNKNOWN);
            CHECK.due("unknown method ahead of outside", x.event(0, odd, 0, 2), Check.UNKNOWN);
        }
        CHECK.row("it does not ANSWER it", new long[] {x.event(0, 1, 0, 0), x.event(0, 1, -1, 0), x.event(1, 5, 0, 0),
            x.event(1, 5, 0, 2)}, Check.UNKNOWN, Check.UNKNOWN, Check.UNKNOWN, Check.UNKNOWN);
        CHECK.about(13, "OUTSIDE: what.");
        for (int odd : NO_WHATS) {
            CHECK.refused(x, "event(1, 0, 1, " + odd + ")", () -> x.event(1, 0, 1, odd), Check.OUTSIDE);
        }
        CHECK.row("a class that is gone", new long[] {x.event(1, 0, 0, 0), x.drop(), x.event(1, 0, 0, 0), Check.tell(x, "B<A:")},
            RUN, 1, Check.UNKNOWN, 1);
        CHECK.row("the first and the last", new long[] {x.event(1, 0, 0, 0), x.event(1, 0, 0, 1), x.event(1, 0, 1, 0),
            x.event(1, 0, 1, 1)}, RUN, 0, MISSING, 6);
    }
}
