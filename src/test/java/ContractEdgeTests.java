import java.util.function.IntSupplier;

/** The edges that the document names for promises 19 to 24, each under the document's own words. */
public final class ContractEdgeTests {
    private static final Check CHECK = new Check("ContractEdgeTests");
    private static final int LEAST = Integer.MIN_VALUE, MOST = Integer.MAX_VALUE;
    private static final int[] ODD = {-1, 2, 8, LEAST, MOST};

    public static void main(String[] args) {
        contractOutside();
        contractFull();
        contractsStay();
        fits();
        lacksFewest();
        fitRefuses();
        common();
        commonOutside();
        dead();
        deadUnknown();
        countOfEach();
        countOutside();
        digestOfNumbersInOrder();
        digestWraps();
        digestOfAllMethods();
        refusalsOfAFullObject();
        CHECK.end();
    }

    private static void contractOutside() {
        CHECK.about(19, "OUTSIDE: methods (1 to 63)");
        MovedMembers x = new MovedMembers();
        for (int odd : new int[] {0, 64, -1, 127, 64 + 1, LEAST, MOST}) {
            CHECK.refused(x, "contract(" + odd + ")", () -> x.contract(odd), Check.OUTSIDE);
        }
        CHECK.row("one method, all methods", new long[] {x.contract(1), x.contract(32), x.contract(63)}, 0, 1, 2);
        CHECK.row("they are as told", new long[] {x.fit(0, 0), x.fit(1, 0), x.fit(2, 0)}, 1, 32, 63);
    }

    private static void contractFull() {
        CHECK.about(19, "six at most, numbered from 0");
        MovedMembers x = new MovedMembers();
        for (int n = 0; n < 6; n++) {
            CHECK.due("contract " + n, x.contract(n + 1), n);
        }
        CHECK.about(19, "FULL.");
        CHECK.refused(x, "a seventh", () -> x.contract(1), Check.FULL);
        CHECK.refused(x, "a seventh of all", () -> x.contract(63), Check.FULL);
        CHECK.about(19, "Refusals, of several the first as told by each call");
        CHECK.refused(x, "a seventh of none", () -> x.contract(0), Check.OUTSIDE);
        CHECK.refused(x, "a seventh of too many", () -> x.contract(64), Check.OUTSIDE);
        CHECK.row("the sixth", new long[] {x.fit(5, 0), x.fit(6, 0), x.count(4)}, 6, Check.UNKNOWN, 6);
    }

    private static void contractsStay() {
        CHECK.about(19, "A CONTRACT: its number.");
        MovedMembers x = Check.told("A:a", "B<A:b");
        CHECK.row("the same set twice", new long[] {x.contract(2), x.contract(2), x.count(4)}, 0, 1, 2);
        CHECK.row("it stays where classes go", new long[] {x.fit(0, 1), x.drop(), x.fit(0, 1), x.drop(), x.fit(0, 1), x.fit(0, 0),
            x.count(4)}, 2, 1, 0, 0, 0, 2, 2);
    }

    private static void fits() {
        CHECK.about(20, "a CLASS FITS it, if it ANSWERS all of them");
        MovedMembers x = Check.told("A:ab-", "B<A:b", "C<B:a-", "D:abc", "E:a-b");
        x.contract(3);
        CHECK.due("from above, hidden, and more than asked", x.fit(0, 1), 2 + 4 + 8);
        x.hollow(1, true);
        CHECK.due("an ABSTRACT one, too", x.fit(0, 1), 2 + 4 + 8);
        MovedMembers eight = Check.told("A:f", "B<A:", "C<A:", "D<A:", "E<A:", "F<A:", "G<A:", "H<A:");
        eight.contract(32);
        CHECK.row("eight", new long[] {eight.fit(0, 1), eight.fit(0, 2)}, 255, Check.NONE);
        MovedMembers moved = Check.told("A:", "B<A:a");
        moved.contract(1);
        CHECK.row("behind a move, and undone", new long[] {moved.fit(0, 1), moved.move(1, 0, true), moved.fit(0, 1), moved.undo(),
            moved.fit(0, 1), moved.fit(0, 2)}, 2, 1, 3, 0, 2, 0);
    }

    private static void lacksFewest() {
        CHECK.about(20, "of those that do not the one that lacks fewest (of like ones the least;");
        MovedMembers x = Check.told("A:", "B:a", "C:ab", "D:bc", "E:abc", "F:");
        CHECK.row("contracts", new long[] {x.contract(7), x.contract(63), x.contract(32), x.contract(6)}, 0, 1, 2, 3);
        CHECK.row("one of like ones", new long[] {x.fit(0, 2), x.fit(0, 1)}, 2, 16);
        CHECK.row("three of six", new long[] {x.fit(1, 2), x.fit(1, 1)}, 4, 0);
        CHECK.row("all lack it", new long[] {x.fit(2, 2), x.fit(2, 1)}, 0, 0);
        CHECK.row("those that fit do not count", new long[] {x.fit(3, 2), x.fit(3, 1)}, 2, 8 + 16);
        MovedMembers all = Check.told("A:");
        all.contract(63);
        CHECK.due("it lacks all six", all.fit(0, 2), 0);
        CHECK.about(20, "NONE: all FIT, or there are none");
        MovedMembers none = new MovedMembers();
        none.contract(1);
        CHECK.row("there are none", new long[] {none.fit(0, 1), none.fit(0, 2)}, 0, Check.NONE);
        CHECK.row("all fit", new long[] {Check.tell(none, "A:a"), none.fit(0, 1), none.fit(0, 2)}, 0, 1, Check.NONE);
        CHECK.row("one does not", new long[] {Check.tell(none, "B:a-"), none.fit(0, 1), none.fit(0, 2)}, 1, 1, 1);
    }

    private static void fitRefuses() {
        CHECK.about(20, "UNKNOWN; OUTSIDE.");
        MovedMembers x = Check.told("A:a");
        CHECK.refused(x, "there is no contract", () -> x.fit(0, 0), Check.UNKNOWN);
        x.contract(1);
        x.contract(2);
        for (int odd : ODD) {
            CHECK.refused(x, "fit(" + odd + ", 0)", () -> x.fit(odd, 0), Check.UNKNOWN);
            CHECK.due("unknown ahead of outside", x.fit(odd, 3), Check.UNKNOWN);
        }
        for (int odd : new int[] {-1, 3, LEAST, MOST}) {
            CHECK.refused(x, "fit(1, " + odd + ")", () -> x.fit(1, odd), Check.OUTSIDE);
        }
    }

    private static void common() {
        CHECK.about(21, "COMMON of some CLASSES: all METHODS that each of them ANSWERS.");
        MovedMembers x = Check.told("A:abcdef", "B<A:a-", "C:f", "D:a-", "E:ef");
        CHECK.row("of one", new long[] {x.common(1), x.common(2), x.common(4), x.common(8), x.common(16)}, 63, 63, 32, 0, 48);
        MovedMembers few = Check.told("A:a", "B<A:b");
        CHECK.row("the first has fewer", new long[] {few.common(1), few.common(2), few.common(3)}, 1, 3, 1);
        CHECK.row("of several", new long[] {x.common(3), x.common(20), x.common(17), x.common(23), x.common(31)}, 63, 32, 48, 32, 0);
        x.hollow(2, true);
        CHECK.due("of ABSTRACT ones, too", x.common(20), 32);
    }

    private static void commonOutside() {
        CHECK.about(21, "bits, one at least");
        MovedMembers none = new MovedMembers();
        CHECK.refused(none, "no classes", () -> none.common(1), Check.OUTSIDE);
        CHECK.refused(none, "none of none", () -> none.common(0), Check.OUTSIDE);
        MovedMembers x = Check.told("A:a", "B:a");
        for (int odd : new int[] {0, 4, 5, 7, 256, -1, LEAST, LEAST + 1, MOST}) {
            CHECK.refused(x, "common(" + odd + ")", () -> x.common(odd), Check.OUTSIDE);
        }
        CHECK.due("all of two", x.common(3), 1);
        MovedMembers eight = Check.told("A:a", "B:a", "C:a", "D:a", "E:a", "F:a", "G:a", "H:ab");
        CHECK.row("eight", new long[] {eight.common(255), eight.common(128), eight.common(256), eight.common(257)},
            1, 3, Check.OUTSIDE, Check.OUTSIDE);
    }

    private static long[] deadOnes(MovedMembers x) {
        long[] row = new long[x.count(2) + 1];
        for (int body = 0; body + 1 < row.length; body++) {
            row[body] = x.dead(body);
        }
        row[row.length - 1] = x.count(7);
        return row;
    }

    private static void dead() {
        CHECK.about(22, "A BODY is DEAD, if it is in no EVENT of any TRACE of a CLASS that has OBJECTS.");
        CHECK.row("hidden, and called by none", deadOnes(Check.told("A:a-")), 1, 1);
        CHECK.row("hidden, and called", deadOnes(Check.told("A:a-b(a)")), 0, 0, 0);
        CHECK.row("hidden ones that call each other", deadOnes(Check.told("A:a-(b)b-(a)c")), 1, 1, 0, 2);
        MovedMembers above = Check.told("A:a", "B<A:a");
        CHECK.row("objects of the one above", deadOnes(above), 0, 0, 0);
        above.hollow(0, true);
        CHECK.row("no objects of the one above", deadOnes(above), 1, 0, 1);
        above.hollow(1, true);
        CHECK.row("no objects at all", deadOnes(above), 1, 1, 2);
        MovedMembers asked = Check.told("A:a", "B<A:a(^a)");
        asked.hollow(0, true);
        CHECK.row("asked from below", deadOnes(asked), 0, 0, 0);
        CHECK.row("no bodies", deadOnes(Check.told("A:u")), 0);
        MovedMembers last = Check.told("A:abcdef", "B:abcdef", "C:abcdef", "D:abcdef", "E:abcdef", "F:abcdef", "G:abcd-");
        CHECK.row("the fortieth", new long[] {last.dead(38), last.dead(39), last.dead(40), last.count(7)}, 0, 1, Check.UNKNOWN, 1);
    }

    private static void deadUnknown() {
        CHECK.about(22, "UNKNOWN.");
        MovedMembers x = Check.told("A:a", "B:b");
        for (int odd : ODD) {
            CHECK.refused(x, "dead(" + odd + ")", () -> x.dead(odd), Check.UNKNOWN);
        }
        CHECK.row("one that is gone", new long[] {x.dead(1), x.drop(), x.dead(1)}, 0, 1, Check.UNKNOWN);
    }

    private static void countOfEach() {
        CHECK.about(23, "How many: 0 letters of THE PAGE, 1 CLASSES, 2 BODIES, 3 MOVES that are kept, 4 CONTRACTS");
        MovedMembers x = new MovedMembers();
        CHECK.row("none of any", Check.counts(x), 0, 0, 0, 0, 0, 0, 0, 0, 0);
        Check.tell(x, "A:a(bu)u");
        Check.tell(x, "B<A:b-(z)v");
        Check.tell(x, "C<A:c(^c)w");
        x.contract(1);
        Check.page(x, "D:");
        CHECK.row("moves", new long[] {x.move(1, 7, true), x.move(2, 8, true), x.undo(), x.move(2, 8, true), x.move(0, 8, false),
            x.undo()}, 1, 2, 1, 2, 3, 2);
        // Missing: b in the trace of a for A, B, C, and c that C asks for; dead: B's b.
        CHECK.row("each another", Check.counts(x), 2, 3, 3, 2, 1, 4, 2, 1, 4);
        CHECK.due("missing, asked first", Check.told("A:a(bcd)").count(8), 3);
        x.hollow(2, true);
        CHECK.row("one without objects", Check.counts(x), 2, 3, 3, 0, 1, 4, 2, 2, 2);
    }

    private static void countOutside() {
        CHECK.about(23, "OUTSIDE.");
        MovedMembers x = Check.told("A:a", "B<A:u");
        for (int odd : new int[] {-1, 9, LEAST, MOST}) {
            CHECK.refused(x, "count(" + odd + ")", () -> x.count(odd), Check.OUTSIDE);
        }
    }

    private static void digestOfNumbersInOrder() {
        CHECK.about(24, "h is 1663, then for each of these numbers, in order, 31 times h, and it");
        MovedMembers x = Check.told("A:b(^au)u");
        x.contract(3);
        x.letter(126);
        CHECK.due("of one class, its bodies not numbered as it", digestOfTwoBodies(), Check.digestOf(
            -1, 0, 33, 1, 0, 32, 0,
            0, -1, -1, -1, -1, 1, -1, -1, -1, -1, -1, -1,
            -1, -1, -1, -1, -1, -1, -1, -1, -1, -1, -1, -1, -1, -1, -1, -1, -1, -1, -1, -1,
            1, 0, 2, 1, 0, 1, 1, 1,
            0, -1, -1, -1, -1, -1, -1, 1,
            1, 5, -1, -1, -1, -1, -1, 0,
            0, 0, 0,
            0, 1, 2, 0, 0, 0, 0, 1, 0));
        CHECK.due("of one class", x.digest(), Check.digestOf(
            -1, 0, 2, 0, 1, 2, 0,
            -1, 0, -1, -1, -1, -1, 6, -1, -1, -1, -1, -1,
            -1, -1, -1, -1,
            0, 0, 3, 1, 0, 0, 3, 0, 2, 6,
            -1, -1, -1, -1, -1, -1, -1, -1, -1, -1, -1, -1, -1, -1, -1, -1,
            2, 20, 6, -1, -1, -1, -1, 0,
            0, 0, 0,
            3, 0, 0,
            126,
            1, 1, 1, 0, 1, 0, 0, 0, 1));
    }

    /** Its first body is dead, its second one goes round. */
    private static long digestOfTwoBodies() {
        return Check.told("A:a-f(f)").digest();
    }

    private static void digestWraps() {
        CHECK.about(24, "as longs, wrapping");
        MovedMembers x = new MovedMembers();
        Check.page(x, "~~~~~~~~~~~~~~~~~~~~~~~~~~~~~~~~~~~~~~~~");
        long[] numbers = new long[3 + 40 + 9];
        java.util.Arrays.fill(numbers, 3, 44, 126);
        numbers[43] = 40;
        for (int n = 0; n < 3; n++) {
            numbers[n] = 0;
        }
        CHECK.due("of forty letters", x.digest(), Check.digestOf(numbers));
    }

    private static void digestOfAllMethods() {
        CHECK.about(24, "of each METHOD answer() for 0, 1, trace() for 0, 1");
        long[] numbers = new long[7 + 12 + 24 + 3 + 9];
        java.util.Arrays.fill(numbers, 0, 43, -1);
        java.util.Arrays.fill(numbers, 1, 7, 0);
        numbers[43 + 3 + 1] = 1;
        CHECK.due("of a class that answers none", Check.told("A:").digest(), Check.digestOf(numbers));
    }

    /** Every refusal at once on an object that is full of all: none of them changes what can be seen. */
    private static void refusalsOfAFullObject() {
        CHECK.about(24, "they change nothing");
        MovedMembers x = Check.told("A:abcdef", "B<A:abcdef", "C:abcdef", "D:abcdef", "E:abcdef", "F:abcdef", "G:abcd", "H<A:u");
        for (int n = 0; n < 6; n++) {
            x.contract(63);
        }
        for (int n = 1; n <= 20; n++) {
            CHECK.due("move " + n, n % 2 == 1 ? x.move(7, 6, true) : x.move(0, 6, false), n);
            if (n % 2 == 0) {
                CHECK.row("in B and H", new long[] {x.has(1, 6), x.has(7, 6)}, 90, 90);
            }
        }
        Check.page(x, "I:                                      ");
        long before = x.digest();
        IntSupplier[] calls = {() -> x.letter(65), () -> x.letter(31), x::type, x::drop, () -> x.hollow(8, true), () -> x.of(8, 0),
            () -> x.of(0, 7), () -> x.has(0, 12), () -> x.answer(0, 6, 0), () -> x.answer(0, 0, 2), () -> x.body(40, 0),
            () -> x.body(39, 16), () -> x.trace(8, 0, 0), () -> x.trace(0, 0, -1), () -> x.event(0, 0, 1, 0),
            () -> x.event(0, 0, 0, 2), () -> x.why(8, 0, true), () -> x.where(0, 12, true), () -> x.move(8, 6, true),
            () -> x.move(0, 6, true), () -> x.move(7, 6, true), () -> x.moves(3), () -> x.contract(0), () -> x.contract(1),
            () -> x.fit(6, 0), () -> x.fit(5, 3), () -> x.common(256), () -> x.dead(40), () -> x.count(9)};
        int unknown = Check.UNKNOWN, outside = Check.OUTSIDE, state = Check.STATE, full = Check.FULL;
        int[] due = {full, outside, state, state, unknown, unknown, outside, unknown, unknown, outside, unknown, outside, unknown,
            outside, unknown, outside, unknown, unknown, unknown, state, full, outside, outside, full, unknown, outside, outside,
            unknown, outside};
        for (int n = 0; n < calls.length; n++) {
            CHECK.due("call " + n, calls[n].getAsInt(), due[n]);
            CHECK.due("call " + n + " changes nothing", x.digest(), before);
        }
        CHECK.row("and all can be undone", new long[] {x.undo(), x.has(0, 6), x.has(1, 6), x.has(7, 6)}, 19, 90, -1, -1);
    }
}
