import java.util.ArrayList;
import java.util.List;

/** Promises 14 to 18: which moves can be, why others cannot, done and undone. */
public final class MoveTests {
    private static final Check CHECK = new Check("MoveTests");
    private static final int[] STRANGE = {-1, 8, Integer.MIN_VALUE, Integer.MAX_VALUE};

    public static void main(String[] args) {
        whyOneToThree();
        whyFour();
        whyForObjectsAlone();
        whyTracesThatAreCut();
        whereTheFirst();
        unknown();
        moveUp();
        moveDown();
        moveHidden();
        moveBodies();
        moveIsRefused();
        undo();
        endsOfKeeping();
        moves();
        CHECK.end();
    }

    private static void whyOneToThree() {
        MovedMembers x = Check.told("A:au", "B<A:ab", "C<A:a", "D:c");
        CHECK.row("14: not there", new long[] {x.why(0, 1, true), x.why(0, 1, false), x.why(3, 0, true),
            x.why(3, 11, false)}, 1, 1, 1, 1);
        CHECK.row("14: no parent, none below", new long[] {x.why(0, 0, true), x.why(1, 1, false), x.why(3, 2, true),
            x.why(3, 2, false)}, 2, 2, 2, 2);
        CHECK.row("14: in the way", new long[] {x.why(1, 0, true), x.why(0, 0, false)}, 3, 3);
        CHECK.row("14: it can be", new long[] {x.why(0, 6, false), x.why(1, 1, true)}, 0, 0);
        CHECK.row("15: where is for four alone", new long[] {x.where(0, 1, true), x.where(0, 0, true),
            x.where(1, 0, true), x.where(0, 6, false)}, -1, -1, -1, -1);
        MovedMembers hidden = Check.told("A:a-", "B<A:a", "C<A:");
        CHECK.row("14: a hidden one is in the way", new long[] {hidden.why(1, 0, true), hidden.why(0, 0, false)}, 3, 0);
    }

    private static void whyFour() {
        MovedMembers x = Check.told("A:a(u)", "B<A:u", "C<A:b(u)c(u)");
        CHECK.row("14: a slot above is found then", new long[] {x.why(1, 6, true), x.where(1, 6, true)}, 4, 0);
        CHECK.row("14: a body that is no longer answered", new long[] {x.why(0, 0, false), x.where(0, 0, false)}, 4, 0);
        CHECK.due("14: new answers do not stop it", x.why(2, 1, true), 0);
        MovedMembers call = Check.told("A:", "B<A:a-b(a)", "C<A:a");
        CHECK.row("14: hidden, it is not found from below", new long[] {call.why(1, 0, true), call.where(1, 0, true)}, 4, 7);
        MovedMembers ask = Check.told("A:", "B<A:b", "C<A:c(^b)");
        CHECK.row("14: an ask finds what came up", new long[] {ask.why(1, 1, true), ask.where(1, 1, true)}, 4, 14);
        MovedMembers two = Check.told("A:a(b)", "B<A:b", "C<A:");
        CHECK.row("14: a call finds it for another object", new long[] {two.why(1, 1, true), two.where(1, 1, true)}, 4, 0);
    }

    private static void whyForObjectsAlone() {
        MovedMembers x = Check.told("A:a(u)", "B<A:u", "C<A:");
        x.hollow(0, true);
        CHECK.row("14: the next with objects", new long[] {x.why(1, 6, true), x.where(1, 6, true)}, 4, 6);
        x.hollow(1, true);
        CHECK.row("14: and the next", new long[] {x.why(1, 6, true), x.where(1, 6, true)}, 4, 12);
        x.hollow(2, true);
        CHECK.row("14: there are no objects", new long[] {x.why(1, 6, true), x.where(1, 6, true)}, 0, -1);
    }

    /** What comes behind sixty events is no part of a trace, so it stops no move. */
    private static void whyTracesThatAreCut() {
        MovedMembers x = Check.told("A:a(bbbu)b(cccccc)c(dddddd)d", "B<A:u");
        CHECK.row("14: it is behind the cut", new long[] {x.trace(0, 0, 0), x.why(1, 6, true)}, 60, 0);
        MovedMembers y = Check.told("A:a(bu)b(cccccc)c(dddddd)d", "B<A:u");
        CHECK.row("14: it is ahead of it", new long[] {y.trace(0, 0, 0), y.why(1, 6, true)}, 45, 4);
    }

    private static void whereTheFirst() {
        MovedMembers x = Check.told("A:", "B<A:c(z)e(z)", "C<B:z", "D<B:a(z)");
        CHECK.row("15: least class, then least method", new long[] {x.where(2, 11, true)}, 6 + 2);
        x.hollow(1, true);
        CHECK.row("15: without objects of B", new long[] {x.where(2, 11, true)}, 12 + 2);
        x.hollow(2, true);
        CHECK.row("15: without objects of C", new long[] {x.where(2, 11, true)}, 18);
    }

    private static void unknown() {
        MovedMembers x = Check.told("A:u", "B<A:");
        for (int odd : STRANGE) {
            CHECK.due("14: class " + odd, x.why(odd, 6, true), Check.UNKNOWN);
            CHECK.due("15: class " + odd, x.where(odd, 6, false), Check.UNKNOWN);
            CHECK.due("16: class " + odd, x.move(odd, 6, false), Check.UNKNOWN);
        }
        for (int odd : new int[] {-1, 12, Integer.MIN_VALUE, Integer.MAX_VALUE}) {
            CHECK.due("14: member " + odd, x.why(0, odd, true), Check.UNKNOWN);
            CHECK.due("15: member " + odd, x.where(0, odd, false), Check.UNKNOWN);
            CHECK.due("16: member " + odd, x.move(0, odd, false), Check.UNKNOWN);
        }
        CHECK.due("14: class 2", x.why(2, 6, true), Check.UNKNOWN);
        CHECK.due("16: nothing was done", x.count(5), 0);
    }

    private static void moveUp() {
        MovedMembers x = Check.told("A:", "B<A:a(u)u", "C<A:u", "D<B:b(u)");
        CHECK.due("16: why and where change nothing", x.why(1, 6, true) + x.where(1, 6, true), -1);
        CHECK.due("16: u up", x.move(1, 6, true), 1);
        CHECK.row("16: A has it, B not, C its own", new long[] {x.has(0, 6), x.has(1, 6), x.has(2, 6)}, 18, -1, 30);
        CHECK.row("16: what uses it", Check.events(x, 3, 1), 0, 1, 2, 18);
        CHECK.due("16: C's cannot follow", x.why(2, 6, true), 3);
        CHECK.due("16: a up", x.move(1, 0, true), 2);
        CHECK.row("16: A answers it", new long[] {x.of(0, 2), x.of(0, 5), x.of(1, 2), x.answer(1, 0, 1)}, 1, 1, 0, 0);
        CHECK.row("23: counts", new long[] {x.count(3), x.count(5), x.count(6)}, 2, 2, 0);
    }

    private static void moveDown() {
        MovedMembers x = Check.told("A:u", "B<A:", "C<A:u", "D<A:", "E<B:");
        CHECK.due("16: u down", x.move(0, 6, false), 1);
        CHECK.row("16: all that had none have it", new long[] {x.has(0, 6), x.has(1, 6), x.has(2, 6), x.has(3, 6),
            x.has(4, 6)}, -1, 6, 30, 6, -1);
        CHECK.due("16: one of them up", x.move(3, 6, true), 2);
        CHECK.row("16: the same slot goes from all", new long[] {x.has(0, 6), x.has(1, 6), x.has(2, 6), x.has(3, 6)},
            6, -1, 30, -1);
        x.undo();
        CHECK.due("16: another slot up", x.move(2, 6, true), 2);
        CHECK.row("16: others stay", new long[] {x.has(0, 6), x.has(1, 6), x.has(2, 6), x.has(3, 6)}, 30, 6, -1, 6);
        CHECK.due("16: further down", x.move(1, 6, false), 3);
        CHECK.row("16: alone from B", new long[] {x.has(0, 6), x.has(1, 6), x.has(3, 6), x.has(4, 6)}, 30, -1, 6, 6);
    }

    private static void moveHidden() {
        MovedMembers x = Check.told("A:a-", "B<A:", "C<A:");
        CHECK.due("16: hidden down", x.move(0, 0, false), 1);
        CHECK.row("16: hidden there", new long[] {x.of(0, 2), x.of(0, 3), x.of(1, 2), x.of(1, 3), x.of(2, 3),
            x.of(1, 5)}, 0, 0, 1, 1, 1, 0);
        CHECK.due("16: hidden up", x.move(2, 0, true), 2);
        CHECK.row("16: hidden again", new long[] {x.of(0, 2), x.of(0, 3), x.of(1, 2), x.of(1, 3), x.of(2, 3)},
            1, 1, 0, 0, 0);
        CHECK.row("17: undone", new long[] {x.undo(), x.of(1, 3), x.undo(), x.of(0, 3), x.of(1, 3)}, 1, 1, 0, 1, 0);
    }

    private static void moveBodies() {
        MovedMembers x = Check.told("A:a(b)", "B<A:b", "C<A:b", "D<B:");
        x.hollow(0, true);
        CHECK.row("16: b of B for objects of C", new long[] {x.why(1, 1, true), x.why(2, 1, true)}, 0, 0);
        CHECK.due("16: b of B up", x.move(1, 1, true), 1);
        CHECK.row("16: C keeps its own", new long[] {x.has(0, 1), x.has(1, 1), x.has(2, 1)}, 1, -1, 2);
        CHECK.row("16: D runs what it ran", Check.events(x, 3, 0), 0, 0, 0, 1);
        CHECK.due("16: a down to both", x.move(0, 0, false), 2);
        CHECK.row("16: one body in two", new long[] {x.has(1, 0), x.has(2, 0), x.answer(3, 0, 1)}, 0, 0, 1);
        CHECK.due("16: and up from both", x.move(2, 0, true), 3);
        CHECK.row("16: it is in one", new long[] {x.has(0, 0), x.has(1, 0), x.has(2, 0)}, 0, -1, -1);
    }

    private static void moveIsRefused() {
        MovedMembers x = Check.told("A:u", "B<A:a(u)", "C<A:b(u)");
        String before = Check.seen(x);
        CHECK.row("16: why is not 0", new long[] {x.move(0, 0, true), x.move(0, 6, true), x.move(1, 0, false)},
            Check.STATE, Check.STATE, Check.STATE);
        CHECK.holds("16: nothing changed", before.equals(Check.seen(x)));
        MovedMembers y = Check.told("A:u", "B<A:");
        for (int n = 1; n <= 20; n++) {
            CHECK.due("16: move " + n, y.move(n % 2 == 1 ? 0 : 1, 6, n % 2 == 0), n);
        }
        CHECK.due("16: the 21st", y.move(0, 6, false), Check.FULL);
        CHECK.due("16: the 21st that cannot be", y.move(1, 6, false), Check.STATE);
        CHECK.row("16: twenty", new long[] {y.count(3), y.count(5), y.has(0, 6)}, 20, 20, 6);
        CHECK.due("18: what is kept does not matter", y.moves(1), 1);
        CHECK.due("17: one less", y.undo(), 19);
        CHECK.due("16: room again", y.move(1, 6, true), 20);
    }

    private static MovedMembers forUndo() {
        return Check.told("A:", "B<A:a-(u)uv", "C<B:b(v)wu", "D<A:w");
    }

    private static boolean moveByNumber(MovedMembers x, int n) {
        return x.move(n % 4, n / 4 % 12, n / 48 % 2 == 0) > 0;
    }

    private static MovedMembers withMoves(List<Integer> numbers) {
        MovedMembers x = forUndo();
        for (int n : numbers) {
            moveByNumber(x, n);
        }
        return x;
    }

    /** Objects are made anew for each step, as to look at all of one takes many of its 512 calls. */
    private static void undo() {
        MovedMembers x = forUndo();
        CHECK.due("17: nothing to undo", x.undo(), Check.STATE);
        List<Integer> numbers = new ArrayList<>();
        for (int n = 0; n < 400 && numbers.size() < 20; n++) {
            if (moveByNumber(x, n)) {
                numbers.add(n);
            }
        }
        int done = numbers.size();
        CHECK.holds("17: some were done", done > 3);
        for (int left = done - 1; left >= 0; left--) {
            MovedMembers back = withMoves(numbers);
            for (int kept = done - 1; kept >= left; kept--) {
                CHECK.due("17: undo", back.undo(), kept);
            }
            CHECK.holds("17: as it was with " + left, Check.seen(withMoves(numbers.subList(0, left))).equals(Check.seen(back)));
        }
        MovedMembers none = withMoves(numbers);
        for (int n = 0; n < done; n++) {
            none.undo();
        }
        CHECK.row("17: no more", new long[] {none.undo(), none.count(3), none.count(5), none.count(6)}, Check.STATE, 0, done, done);
    }

    private static MovedMembers withOneKept() {
        MovedMembers x = Check.told("A:u", "B<A:", "C:");
        CHECK.due("17: kept", x.move(0, 6, false), 1);
        return x;
    }

    private static void endsOfKeeping() {
        MovedMembers x = withOneKept();
        CHECK.due("17: no class came", Check.tell(x, "D"), Check.STATE);
        CHECK.due("17: it is kept still", x.count(3), 1);
        CHECK.due("17: a class comes", Check.tell(x, "D:"), 3);
        CHECK.row("17: none is kept", new long[] {x.count(3), x.undo(), x.count(5), x.has(1, 6)}, 0, Check.STATE, 1, 6);
        x = withOneKept();
        CHECK.due("17: a class goes", x.drop(), 2);
        CHECK.row("17: none, too", new long[] {x.count(3), x.undo()}, 0, Check.STATE);
        x = withOneKept();
        CHECK.due("17: told to be as it was", x.hollow(2, false), 0);
        CHECK.row("17: none, again", new long[] {x.count(3), x.undo(), x.count(6)}, 0, Check.STATE, 0);
        CHECK.due("17: but moves go on", x.move(1, 6, true), 1);
    }

    private static long[] allMoves(MovedMembers x) {
        return new long[] {x.moves(0), x.moves(1), x.moves(2)};
    }

    private static void moves() {
        CHECK.row("18: of nothing", allMoves(new MovedMembers()), 0, 0, 0);
        MovedMembers x = Check.told("A:u", "B<A:", "C<A:u");
        CHECK.row("18: one down", allMoves(x), 0, 1, 0);
        x.move(0, 6, false);
        CHECK.row("18: each class counts", allMoves(x), 2, 0, 0);
        Check.tell(x, "D<A:");
        x.move(1, 6, true);
        x.move(0, 6, false);
        CHECK.row("18: one slot in two classes", allMoves(x), 3, 0, 0);
        MovedMembers y = Check.told("A:a(u)u", "B<A:b(u)v", "C<B:c");
        CHECK.row("18: stopped", allMoves(y), 3, 1, 3);
        y.hollow(0, true);
        CHECK.row("18: abstract", allMoves(y), 3, 2, 2);
        for (int odd : new int[] {-1, 3, Integer.MIN_VALUE, Integer.MAX_VALUE}) {
            CHECK.due("18: what " + odd, y.moves(odd), Check.OUTSIDE);
        }
    }
}
