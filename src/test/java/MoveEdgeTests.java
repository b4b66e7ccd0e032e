/** The edges that the document names for promises 14 to 18, each under the document's own words. */
public final class MoveEdgeTests {
    private static final Check CHECK = new Check("MoveEdgeTests");
    private static final int[] NO_TYPES = {-1, 2, 8, Integer.MIN_VALUE, Integer.MAX_VALUE};
    private static final int[] NO_MEMBERS = {-1, 12, Integer.MIN_VALUE, Integer.MAX_VALUE};
    private static final boolean UP = true, DOWN = false;

    public static void main(String[] args) {
        doesNotHaveIt();
        noWay();
        inTheWay();
        firstOfThese();
        notAnsweredBehind();
        anotherTrace();
        whatDoesNotStop();
        cutTraces();
        where();
        whereByItself();
        unknown();
        upFromTheSame();
        upFromRightBelowAlone();
        downToRightBelowAlone();
        hiddenAlike();
        refusedByState();
        twentyAtMost();
        lastOneFirst();
        nothingToUndo();
        aClassComes();
        aClassGoes();
        toldToBeAbstract();
        whatDoesNotEndIt();
        doneEver();
        moves();
        fiveHundredAndTwelveCalls();
        CHECK.end();
    }

    private static long[] whys(MovedMembers x, int type, int member) {
        return new long[] {x.why(type, member, UP), x.why(type, member, DOWN)};
    }

    private static void whyAndWhere(MovedMembers x, int type, int member, boolean up, int why, int where) {
        String call = (up ? "up " : "down ") + type + ", " + member;
        CHECK.row("why, where " + call, new long[] {x.why(type, member, up), x.where(type, member, up)}, why, where);
        if (why != 0) {
            CHECK.refused(x, "move " + call, () -> x.move(type, member, up), Check.STATE);
        }
    }

    private static void doesNotHaveIt() {
        CHECK.about(14, "1 the CLASS does not have the MEMBER");
        MovedMembers x = Check.told("A:au", "B<A:", "C<B:");
        CHECK.row("what one above has", whys(x, 1, 0), 1, 1);
        CHECK.row("a field that one above has", whys(x, 1, 6), 1, 1);
        CHECK.row("what none has", whys(x, 1, 11), 1, 1);
        CHECK.row("the first member", whys(x, 2, 0), 1, 1);
        whyAndWhere(x, 1, 5, UP, 1, Check.NONE);
        whyAndWhere(x, 1, 5, DOWN, 1, Check.NONE);
    }

    private static void noWay() {
        CHECK.about(14, "2 UP: it has no PARENT, DOWN: there is no CLASS right below it");
        MovedMembers x = Check.told("A:a", "B<A:b", "C:c");
        CHECK.row("a class by itself", whys(x, 2, 2), 2, 2);
        CHECK.row("the uppermost, the lowest", new long[] {x.why(0, 0, UP), x.why(1, 1, DOWN)}, 2, 2);
        whyAndWhere(x, 0, 0, UP, 2, Check.NONE);
        whyAndWhere(x, 1, 1, DOWN, 2, Check.NONE);
        MovedMembers later = Check.told("A:u", "B<A:u");
        CHECK.row("one more below", new long[] {later.why(1, 6, DOWN), Check.tell(later, "C<B:"), later.why(1, 6, DOWN),
            later.drop(), later.why(1, 6, DOWN)}, 2, 2, 0, 2, 2);
    }

    private static void inTheWay() {
        CHECK.about(14, "3 UP: the PARENT has such a MEMBER");
        MovedMembers x = Check.told("A:a-u", "B<A:au", "C<B:b");
        whyAndWhere(x, 1, 0, UP, 3, Check.NONE);
        whyAndWhere(x, 1, 6, UP, 3, Check.NONE);
        MovedMembers far = Check.told("A:u", "B<A:", "C<B:u");
        CHECK.due("one further up is not in the way", far.why(2, 6, UP), 0);
        CHECK.about(14, "DOWN: all right below it have one");
        MovedMembers two = Check.told("A:ub", "B<A:ub-", "C<A:ub", "D<B:u");
        whyAndWhere(two, 0, 6, DOWN, 3, Check.NONE);
        whyAndWhere(two, 0, 1, DOWN, 3, Check.NONE);
        MovedMembers one = Check.told("A:u", "B<A:u", "C<A:", "D<A:u");
        CHECK.due("one that has none is enough", one.why(0, 6, DOWN), 0);
        MovedMembers below = Check.told("A:u", "B<A:", "C<B:u");
        CHECK.due("those further below do not count", below.why(0, 6, DOWN), 0);
    }

    private static void firstOfThese() {
        CHECK.about(14, "(The first of these.)");
        MovedMembers x = Check.told("A:", "B:a");
        CHECK.row("1 ahead of 2", whys(x, 0, 0), 1, 1);
        MovedMembers y = Check.told("A:a", "B<A:", "C<B:a");
        CHECK.row("1 ahead of 3", whys(y, 1, 0), 1, 1);
        MovedMembers z = Check.told("A:c(^a)a", "B<A:a(u)", "C<B:a-(u)b(a)");
        CHECK.row("3 ahead of 4", new long[] {z.why(1, 0, UP), z.why(2, 0, UP), z.why(1, 0, DOWN)}, 3, 3, 3);
    }

    private static void notAnsweredBehind() {
        CHECK.about(14, "it does not ANSWER it behind it");
        MovedMembers x = Check.told("A:f", "B<A:");
        whyAndWhere(x, 0, 5, DOWN, 4, 5);
        x.hollow(0, true);
        whyAndWhere(x, 0, 5, DOWN, 0, Check.NONE);
        CHECK.about(14, "for some CLASS that has OBJECTS, and some METHOD that it ANSWERS ahead of the MOVE");
        MovedMembers side = Check.told("A:", "B<A:a", "C<B:b", "D<B:");
        whyAndWhere(side, 1, 0, DOWN, 4, 6);
        side.hollow(1, true);
        whyAndWhere(side, 1, 0, DOWN, 0, Check.NONE);
    }

    private static void anotherTrace() {
        CHECK.about(14, "or TRACE is another one");
        whyAndWhere(Check.told("A:", "B<A:a(u)u"), 1, 0, UP, 4, 6);
        whyAndWhere(Check.told("A:b(u)u", "B<A:"), 0, 6, DOWN, 4, 1);
        whyAndWhere(Check.told("A:u", "B<A:u", "C<B:c(u)"), 1, 6, DOWN, 0, Check.NONE);
        whyAndWhere(Check.told("A:a", "B<A:", "C<B:a(^a)"), 0, 0, DOWN, 4, 0);
        whyAndWhere(Check.told("A:", "B<A:a(b)b-"), 1, 1, UP, 4, 6);
        whyAndWhere(Check.told("A:c(b)", "B<A:b-", "C<A:b"), 1, 1, UP, 4, 2);
        whyAndWhere(Check.told("A:", "B<A:a", "C<A:c(^a)"), 1, 0, UP, 4, 14);
        // Another in one event alone, the first or the last, where there are as many.
        whyAndWhere(Check.told("A:a", "B<A:", "C<B:a", "D<B:"), 2, 0, UP, 4, 6);
        whyAndWhere(Check.told("A:u", "B<A:", "C<B:a(u)u"), 2, 6, UP, 0, Check.NONE);
        whyAndWhere(Check.told("A:a(bu)b", "B<A:u"), 1, 6, UP, 4, 0);
        whyAndWhere(Check.told("A:a(cb)b", "B<A:b", "C<A:c"), 2, 2, UP, 4, 0);
    }

    private static void whatDoesNotStop() {
        CHECK.about(14, "some METHOD that it ANSWERS ahead of the MOVE");
        whyAndWhere(Check.told("A:", "B<A:a(u)", "C<A:"), 1, 0, UP, 0, Check.NONE);
        CHECK.about(14, "for some CLASS that has OBJECTS");
        MovedMembers x = Check.told("A:a(u)", "B<A:u", "C<A:");
        x.hollow(0, true);
        x.hollow(2, true);
        whyAndWhere(x, 1, 6, UP, 4, 6);
        x.hollow(1, true);
        whyAndWhere(x, 1, 6, UP, 0, Check.NONE);
    }

    /** Behind a, b, c, c there are 58 events. */
    private static void cutTraces() {
        CHECK.about(14, "A TRACE has 60 EVENTS at most");
        whyAndWhere(Check.told("A:a(bccuv)b(cccccc)c(uuuuuu)", "B<A:v"), 1, 7, UP, 4, 0);
        whyAndWhere(Check.told("A:a(bccuuv)b(cccccc)c(uuuuuu)", "B<A:v"), 1, 7, UP, 0, Check.NONE);
    }

    private static void where() {
        CHECK.about(15, "The first such CLASS by number, and the first METHOD of it by number, are WHERE (of 4).");
        MovedMembers x = Check.told("A:f(z)b(z)", "B<A:z", "C<A:a(z)");
        whyAndWhere(x, 1, 11, UP, 4, 1);
        x.hollow(0, true);
        whyAndWhere(x, 1, 11, UP, 4, 6 + 1);
        x.hollow(1, true);
        whyAndWhere(x, 1, 11, UP, 4, 12);
        MovedMembers last = Check.told("A:", "B:", "C:", "D:", "E:", "F:", "G:", "H<G:f(z)z");
        CHECK.about(15, "6 times the CLASS, and the METHOD");
        whyAndWhere(last, 7, 5, UP, 4, 47);
    }

    private static void whereByItself() {
        CHECK.about(15, "NONE: WHY is another one than 4.");
        MovedMembers x = Check.told("A:a(u)b", "B<A:bu", "C:c", "D<A:v");
        CHECK.row("each asked for the first time", new long[] {x.where(1, 6, UP), x.where(3, 7, UP), x.where(1, 6, UP), x.where(1, 0, UP),
            x.where(1, 6, UP), x.where(2, 2, UP), x.where(1, 6, UP), x.where(1, 1, UP)}, 0, -1, 0, -1, 0, -1, 0, -1);
        CHECK.row("behind a why", new long[] {x.why(1, 6, UP), x.where(3, 7, UP), x.why(3, 7, UP), x.where(1, 6, UP)}, 4, -1, 0, 0);
    }

    private static void unknown() {
        MovedMembers x = Check.told("A:u", "B<A:");
        for (int odd : NO_TYPES) {
            CHECK.about(14, "UNKNOWN: type, member.");
            CHECK.refused(x, "why(" + odd + ", 6)", () -> x.why(odd, 6, DOWN), Check.UNKNOWN);
            CHECK.about(15, "UNKNOWN: type, member.");
            CHECK.refused(x, "where(" + odd + ", 6)", () -> x.where(odd, 6, DOWN), Check.UNKNOWN);
            CHECK.about(16, "UNKNOWN: type, member");
            CHECK.refused(x, "move(" + odd + ", 6)", () -> x.move(odd, 6, DOWN), Check.UNKNOWN);
        }
        for (int odd : NO_MEMBERS) {
            CHECK.about(14, "UNKNOWN: type, member.");
            CHECK.refused(x, "why(0, " + odd + ")", () -> x.why(0, odd, DOWN), Check.UNKNOWN);
            CHECK.about(15, "UNKNOWN: type, member.");
            CHECK.refused(x, "where(0, " + odd + ")", () -> x.where(0, odd, DOWN), Check.UNKNOWN);
            CHECK.about(16, "UNKNOWN: type, member");
            CHECK.refused(x, "move(0, " + odd + ")", () -> x.move(0, odd, DOWN), Check.UNKNOWN);
        }
    }

    private static long[] having(MovedMembers x, int member) {
        long[] row = new long[x.count(1)];
        for (int type = 0; type < row.length; type++) {
            row[type] = x.has(type, member);
        }
        return row;
    }

    private static void upFromTheSame() {
        CHECK.about(16, "or the same SLOT, have it no longer");
        MovedMembers x = Check.told("A:u", "B<A:", "C<A:u", "D<A:");
        CHECK.row("to all that have none", new long[] {x.move(0, 6, DOWN), x.moves(0)}, 1, 3);
        CHECK.row("slots", having(x, 6), -1, 6, 30, 6);
        CHECK.due("from one of two", x.move(3, 6, UP), 2);
        CHECK.row("from both", having(x, 6), 6, -1, 30, -1);
        CHECK.row("undone, the other one", new long[] {x.undo(), x.move(2, 6, UP)}, 1, 2);
        CHECK.row("from none beside it", having(x, 6), 30, 6, -1, 6);
        CHECK.about(16, "and the CLASS and all others right below that PARENT that have it with the same BODY");
        MovedMembers y = Check.told("A:a", "B<A:", "C<A:a", "D<A:");
        y.hollow(0, true);
        CHECK.row("from one of two", new long[] {y.move(0, 0, DOWN), y.move(1, 0, UP)}, 1, 2);
        CHECK.row("bodies", having(y, 0), 0, -1, 1, -1);
    }

    private static void upFromRightBelowAlone() {
        CHECK.about(16, "all others right below that PARENT");
        MovedMembers x = Check.told("A:u", "B<A:", "C<A:", "D<B:", "E<C:");
        CHECK.row("down by two", new long[] {x.move(0, 6, DOWN), x.move(1, 6, DOWN), x.move(2, 6, DOWN)}, 1, 2, 3);
        CHECK.row("in D and E", having(x, 6), -1, -1, -1, 6, 6);
        CHECK.due("up from D", x.move(3, 6, UP), 4);
        CHECK.row("E is below another", having(x, 6), -1, 6, -1, -1, 6);
        CHECK.due("up from B", x.move(1, 6, UP), 5);
        CHECK.row("E is not right below A", having(x, 6), 6, -1, -1, -1, 6);
        MovedMembers roots = Check.told("A:u", "B<A:", "C:", "D<C:u");
        CHECK.due("up from D", roots.move(3, 6, UP), 1);
        CHECK.row("to its own parent", having(roots, 6), 6, -1, 42, -1);
    }

    private static void downToRightBelowAlone() {
        CHECK.about(16, "DOWN: all CLASSES right below it that have no such MEMBER have it then so, and it has it no longer.");
        MovedMembers x = Check.told("A:z", "B<A:", "C<B:", "D<A:z", "E:", "F<A:");
        CHECK.due("down", x.move(0, 11, DOWN), 1);
        CHECK.row("right below", having(x, 11), -1, 11, -1, 47, -1, 11);
    }

    private static void hiddenAlike() {
        CHECK.about(16, "its PARENT has it then (with its BODY, HIDDEN or not, or its SLOT)");
        MovedMembers x = Check.told("A:", "B<A:a-b");
        CHECK.row("up", new long[] {x.move(1, 0, UP), x.move(1, 1, UP), x.of(0, 2), x.of(0, 3), x.of(1, 2), x.of(1, 3)},
            1, 2, 3, 1, 0, 0);
        CHECK.row("down", new long[] {x.move(0, 0, DOWN), x.of(0, 2), x.of(0, 3), x.of(1, 2), x.of(1, 3)}, 3, 2, 0, 1, 1);
        CHECK.row("undone", new long[] {x.undo(), x.of(0, 3), x.of(1, 3), x.undo(), x.undo(), x.of(0, 3), x.of(1, 3)},
            2, 1, 0, 1, 0, 0, 1);
        CHECK.about(16, "the same BODY (and HIDDEN alike)");
        MovedMembers y = Check.told("A:", "B<A:a-", "C<A:a");
        CHECK.row("a hidden one up, another stays", new long[] {y.move(1, 0, UP), y.has(0, 0), y.has(2, 0), y.of(0, 3), y.of(2, 3)},
            1, 0, 1, 1, 0);
    }

    private static void refusedByState() {
        CHECK.about(16, "STATE: WHY is not 0");
        MovedMembers x = Check.told("A:a", "B<A:av", "C:u");
        x.move(1, 7, UP);
        CHECK.refused(x, "1", () -> x.move(2, 0, UP), Check.STATE);
        CHECK.refused(x, "2", () -> x.move(2, 6, UP), Check.STATE);
        CHECK.refused(x, "3", () -> x.move(1, 0, UP), Check.STATE);
        CHECK.row("what is kept stays", new long[] {x.undo(), x.has(1, 7)}, 0, 19);
    }

    private static MovedMembers withTwentyKept() {
        MovedMembers x = Check.told("A:u", "B<A:");
        for (int n = 1; n <= 20; n++) {
            CHECK.due("move " + n, x.move(n % 2 == 1 ? 0 : 1, 6, n % 2 == 0), n);
        }
        return x;
    }

    private static void twentyAtMost() {
        CHECK.about(16, "FULL: 20 are kept.");
        MovedMembers x = withTwentyKept();
        CHECK.refused(x, "the 21st", () -> x.move(0, 6, DOWN), Check.FULL);
        CHECK.about(16, "Refusals, of several the first as told by each call");
        CHECK.refused(x, "the 21st that cannot be", () -> x.move(0, 6, UP), Check.STATE);
        CHECK.refused(x, "the 21st of no class", () -> x.move(2, 6, UP), Check.UNKNOWN);
        CHECK.refused(x, "the 21st of no member", () -> x.move(0, 12, UP), Check.UNKNOWN);
        CHECK.about(16, "MOVES that were done are kept (20 at most at once)");
        CHECK.row("one undone, one done", new long[] {x.undo(), x.move(1, 6, UP), x.move(0, 6, DOWN)}, 19, 20, Check.FULL);
        CHECK.row("none kept, room again", new long[] {x.hollow(0, false), x.move(0, 6, DOWN)}, 0, 1);
        CHECK.about(17, "The last MOVE is undone: how many are kept.");
        MovedMembers y = withTwentyKept();
        for (int n = 19; n >= 0; n--) {
            CHECK.row("undo to " + n, new long[] {y.undo(), y.has(0, 6), y.has(1, 6)}, n, n % 2 == 0 ? 6 : -1, n % 2 == 0 ? -1 : 6);
        }
        CHECK.refused(y, "the 21st undo", y::undo, Check.STATE);
    }

    private static void lastOneFirst() {
        CHECK.about(17, "can be undone, the last one first");
        MovedMembers x = Check.told("A:u", "B<A:vw", "C<A:");
        CHECK.row("three", new long[] {x.move(1, 7, UP), x.move(0, 6, DOWN), x.move(1, 8, UP)}, 1, 2, 3);
        CHECK.row("w", new long[] {x.undo(), x.of(0, 4), x.of(1, 4), x.of(2, 4)}, 2, 2, 5, 1);
        CHECK.row("u", new long[] {x.undo(), x.of(0, 4), x.of(1, 4), x.of(2, 4)}, 1, 3, 4, 0);
        CHECK.row("another one then", new long[] {x.move(0, 7, DOWN), x.of(1, 4), x.of(2, 4), x.undo()}, 2, 6, 2, 1);
        CHECK.row("v", new long[] {x.undo(), x.of(0, 4), x.of(1, 4), x.of(2, 4)}, 0, 1, 6, 0);
    }

    private static void nothingToUndo() {
        CHECK.about(17, "STATE: none is kept.");
        MovedMembers x = Check.told("A:u", "B<A:");
        CHECK.refused(x, "none was done", x::undo, Check.STATE);
        CHECK.row("one", new long[] {x.move(0, 6, DOWN), x.undo()}, 1, 0);
        CHECK.refused(x, "all are undone", x::undo, Check.STATE);
        CHECK.row("as it was", having(x, 6), 6, -1);
    }

    private static MovedMembers withOneKept() {
        MovedMembers x = Check.told("A:u", "B<A:", "C:");
        CHECK.due("one move", x.move(0, 6, DOWN), 1);
        return x;
    }

    private static void noneIsKept(MovedMembers x) {
        CHECK.row("none is kept", new long[] {x.count(3), x.count(5), x.count(6)}, 0, 1, 0);
        CHECK.refused(x, "undo", x::undo, Check.STATE);
        CHECK.row("what was done stays", new long[] {x.has(0, 6), x.has(1, 6)}, -1, 6);
        CHECK.row("moves begin anew", new long[] {x.move(1, 6, UP), x.undo(), x.undo()}, 1, 0, Check.STATE);
    }

    private static void aClassComes() {
        CHECK.about(17, "a CLASS that comes, goes");
        MovedMembers x = withOneKept();
        CHECK.due("comes", Check.tell(x, "D:"), 3);
        noneIsKept(x);
    }

    private static void aClassGoes() {
        CHECK.about(17, "a CLASS that comes, goes");
        MovedMembers x = withOneKept();
        CHECK.due("goes", x.drop(), 2);
        noneIsKept(x);
    }

    private static void toldToBeAbstract() {
        CHECK.about(17, "is told to be ABSTRACT, or not (also if it stays as it was), ends that: none is kept then");
        MovedMembers is = withOneKept();
        CHECK.due("abstract", is.hollow(2, true), 0);
        noneIsKept(is);
        MovedMembers stays = withOneKept();
        CHECK.due("not, as it was", stays.hollow(2, false), 0);
        noneIsKept(stays);
        MovedMembers still = Check.told("A:u", "B<A:", "C:");
        still.hollow(0, true);
        CHECK.row("abstract, as it was", new long[] {still.move(0, 6, DOWN), still.hollow(0, true)}, 1, 1);
        noneIsKept(still);
        MovedMembers no = Check.told("A:u", "B<A:", "C:");
        no.hollow(0, true);
        CHECK.row("no longer", new long[] {no.move(0, 6, DOWN), no.hollow(0, false)}, 1, 1);
        noneIsKept(no);
    }

    private static void whatDoesNotEndIt() {
        CHECK.about(17, "they change nothing");
        MovedMembers x = withOneKept();
        CHECK.refused(x, "no class", x::type, Check.STATE);
        CHECK.refused(x, "no such class", () -> x.hollow(3, true), Check.UNKNOWN);
        CHECK.row("other calls", new long[] {x.letter('D'), x.fault(), x.contract(1), x.blank(), x.moves(0), x.undo()},
            1, 1, 0, 1, 1, 0);
        MovedMembers eight = Check.told("A:", "B:", "C:", "D:", "E:", "F:", "G:", "H<G:u");
        CHECK.due("one move", eight.move(7, 6, UP), 1);
        Check.page(eight, "I:");
        CHECK.refused(eight, "a ninth", eight::type, Check.FULL);
        CHECK.refused(eight, "H cannot go", eight::drop, Check.STATE);
        CHECK.row("it is kept", new long[] {eight.undo(), eight.has(6, 6), eight.has(7, 6)}, 0, -1, 90);
    }

    private static void doneEver() {
        CHECK.about(23, "5 MOVES done ever, 6 undone ever");
        MovedMembers x = withOneKept();
        x.undo();
        x.move(0, 6, DOWN);
        CHECK.refused(x, "a move that cannot be", () -> x.move(0, 6, DOWN), Check.STATE);
        CHECK.row("two, one", new long[] {x.count(3), x.count(5), x.count(6)}, 1, 2, 1);
        CHECK.row("also behind their end", new long[] {x.drop(), x.count(3), x.count(5), x.count(6)}, 2, 0, 2, 1);
    }

    private static void moves() {
        CHECK.about(18, "How many MOVES could be done: what = 0 UP, 1 DOWN, 2 how many of both are stopped by 4.");
        MovedMembers none = new MovedMembers();
        CHECK.row("no classes", new long[] {none.moves(0), none.moves(1), none.moves(2)}, 0, 0, 0);
        MovedMembers x = Check.told("A:afz", "B<A:uv", "C<B:uw");
        CHECK.row("3 is not 4", new long[] {x.moves(0), x.moves(1), x.moves(2)}, 3, 2, 2);
        MovedMembers both = Check.told("A:a(u)", "B<A:bu", "C<B:");
        CHECK.row("stopped UP and DOWN", new long[] {both.moves(0), both.moves(1), both.moves(2)}, 1, 1, 3);
        CHECK.row("behind each change", new long[] {both.hollow(0, true), both.moves(0), both.moves(1), both.moves(2), both.move(1, 1, UP),
            both.moves(0), both.moves(1), both.moves(2), both.undo(), both.moves(0), both.moves(1), both.moves(2)},
            0, 1, 1, 3, 1, 0, 2, 2, 0, 1, 1, 3);
        CHECK.row("behind two at once", new long[] {both.moves(0), both.move(1, 1, UP), both.hollow(0, true), both.moves(0), both.moves(1),
            both.moves(2)}, 1, 1, 1, 0, 2, 2);
        CHECK.row("behind an undo and another", new long[] {both.move(0, 1, DOWN), both.moves(1), both.undo(), both.hollow(0, true),
            both.moves(0), both.moves(1), both.moves(2)}, 1, 1, 0, 1, 0, 2, 2);
        MovedMembers full = withTwentyKept();
        CHECK.about(18, "How many MOVES could be done");
        CHECK.row("with twenty kept", new long[] {full.moves(0), full.moves(1), full.moves(2)}, 0, 1, 0);
        CHECK.about(18, "OUTSIDE.");
        for (int odd : new int[] {-1, 3, Integer.MIN_VALUE, Integer.MAX_VALUE}) {
            CHECK.refused(x, "moves(" + odd + ")", () -> x.moves(odd), Check.OUTSIDE);
        }
    }

    private static void fiveHundredAndTwelveCalls() {
        CHECK.about(16, "An object is used for at most 512 calls after it has been made");
        MovedMembers x = new MovedMembers();
        Check.page(x, "A:u");
        x.type();
        Check.page(x, "B<A:");
        x.type();
        for (int n = 0; n < 250; n++) {
            CHECK.row("move and undo " + n, new long[] {x.move(0, 6, DOWN), x.undo()}, 1, 0);
        }
        CHECK.row("ever", new long[] {x.count(5), x.count(6)}, 250, 250);
        long[] all = new long[2 * (7 + 12 + 24) + 3 + 9];
        java.util.Arrays.fill(all, -1);
        put(all, 0, -1, 0, 0, 0, 1, 0, 2);
        put(all, 13, 6);
        put(all, 43, 0, 0, 0, 0, 0, 0, 0);
        put(all, 86, 0, 1, 0);
        put(all, 89, 0, 2, 0, 0, 0, 250, 250, 0, 0);
        CHECK.due("the 512th call", x.digest(), Check.digestOf(all));
    }

    private static void put(long[] all, int from, long... numbers) {
        System.arraycopy(numbers, 0, all, from, numbers.length);
    }
}
