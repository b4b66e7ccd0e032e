/** Promises 8 to 13: what is found where, and what runs. */
public final class FoundTests {
    private static final Check CHECK = new Check("FoundTests");
    private static final int[] STRANGE = {-1, Integer.MIN_VALUE, Integer.MAX_VALUE};

    public static void main(String[] args) {
        MovedMembers x = family();
        of(x);
        has(x);
        answer(x);
        body(x);
        trace(x);
        event(x);
        rounds();
        roundsOfOneBodyInTwoClasses();
        cutAtSixty();
        CHECK.end();
    }

    /** Bodies 0 a, 1 b hidden, 2 c of A, 3 b of B, 4 c of C. */
    private static MovedMembers family() {
        return Check.told("A:a(bu)b-(u)cu", "B<A:b(^bv)v", "C<B:uc(^c^d)", "D:f(^fau)");
    }

    private static void of(MovedMembers x) {
        CHECK.row("8: of A", Check.of(x, 0), Check.NONE, 0, 7, 2, 1, 5, 2);
        CHECK.row("8: of B", Check.of(x, 1), 0, 0, 2, 0, 2, 7, 4);
        CHECK.row("8: of C", Check.of(x, 2), 1, 0, 4, 0, 1, 7, 0);
        CHECK.row("8: of D", Check.of(x, 3), Check.NONE, 0, 32, 0, 0, 32, 0);
        CHECK.due("8: unknown ahead of outside", x.of(4, 7), Check.UNKNOWN);
        for (int odd : STRANGE) {
            CHECK.due("8: of class " + odd, x.of(odd, 0), Check.UNKNOWN);
            CHECK.due("8: of what " + odd, x.of(0, odd), Check.OUTSIDE);
        }
        CHECK.due("8: of what 7", x.of(0, 7), Check.OUTSIDE);
        MovedMembers wide = Check.told("A:uz", "B<A:", "C:", "D<A:", "E<D:");
        CHECK.row("8: right below", new long[] {wide.of(0, 6), wide.of(3, 6), wide.of(2, 6)}, 2 + 8, 16, 0);
        CHECK.due("8: fields", wide.of(0, 4), 1 + 32);
        CHECK.due("8: fields are not found above", wide.of(1, 4), 0);
    }

    private static void has(MovedMembers x) {
        CHECK.row("9: has of A", Check.has(x, 0), 0, 1, 2, -1, -1, -1, 6, -1, -1, -1, -1, -1);
        CHECK.row("9: has of C", Check.has(x, 2), -1, -1, 4, -1, -1, -1, 30, -1, -1, -1, -1, -1);
        CHECK.due("9: member 12", x.has(0, 12), Check.UNKNOWN);
        CHECK.due("9: class 4", x.has(4, 0), Check.UNKNOWN);
        for (int odd : STRANGE) {
            CHECK.due("9: class " + odd, x.has(odd, 0), Check.UNKNOWN);
            CHECK.due("9: member " + odd, x.has(0, odd), Check.UNKNOWN);
        }
    }

    private static void answer(MovedMembers x) {
        int[][] due = {
            {0, 0, 0, 0}, {0, 1, -1, -1}, {0, 2, 2, 0}, {0, 3, -1, -1},
            {1, 0, 0, 0}, {1, 1, 3, 1}, {1, 2, 2, 0},
            {2, 0, 0, 0}, {2, 1, 3, 1}, {2, 2, 4, 2}, {3, 5, 5, 3}, {3, 0, -1, -1}};
        for (int[] row : due) {
            CHECK.due("10: body of " + row[0] + " " + row[1], x.answer(row[0], row[1], 0), row[2]);
            CHECK.due("10: class of " + row[0] + " " + row[1], x.answer(row[0], row[1], 1), row[3]);
        }
        MovedMembers skip = Check.told("A:a", "B<A:a-", "C<B:");
        CHECK.row("10: a hidden one is passed over", new long[] {skip.answer(1, 0, 0), skip.answer(1, 0, 1),
            skip.answer(2, 0, 0), skip.answer(2, 0, 1)}, 0, 0, 0, 0);
        CHECK.due("10: method 6", x.answer(0, 6, 0), Check.UNKNOWN);
        CHECK.due("10: class 4", x.answer(4, 0, 0), Check.UNKNOWN);
        CHECK.due("10: unknown ahead of outside", x.answer(0, 6, 2), Check.UNKNOWN);
        CHECK.due("10: what 2", x.answer(0, 0, 2), Check.OUTSIDE);
        CHECK.due("10: outside ahead of none", x.answer(0, 1, 2), Check.OUTSIDE);
        for (int odd : STRANGE) {
            CHECK.due("10: class " + odd, x.answer(odd, 0, 0), Check.UNKNOWN);
            CHECK.due("10: method " + odd, x.answer(0, odd, 0), Check.UNKNOWN);
            CHECK.due("10: what " + odd, x.answer(0, 0, odd), Check.OUTSIDE);
        }
    }

    private static long[] items(MovedMembers x, int body) {
        long[] row = new long[7];
        row[0] = x.body(body, 0);
        for (int place = 0; place < 6; place++) {
            row[place + 1] = x.body(body, 10 + place);
        }
        return row;
    }

    private static void body(MovedMembers x) {
        CHECK.row("11: body 0", items(x, 0), 2, 1, 6, -1, -1, -1, -1);
        CHECK.row("11: body 2", items(x, 2), 0, -1, -1, -1, -1, -1, -1);
        CHECK.row("11: body 3", items(x, 3), 2, 21, 7, -1, -1, -1, -1);
        CHECK.row("11: body 5", items(x, 5), 3, 25, 0, 6, -1, -1, -1);
        CHECK.row("11: six items", items(Check.told("A:a(zz^f^aff)"), 0), 6, 11, 11, 25, 20, 5, 5);
        CHECK.due("11: body 6", x.body(6, 0), Check.UNKNOWN);
        CHECK.due("11: unknown ahead of outside", x.body(6, 1), Check.UNKNOWN);
        for (int what : new int[] {1, 9, 16, 20}) {
            CHECK.due("11: what " + what, x.body(0, what), Check.OUTSIDE);
        }
        for (int odd : STRANGE) {
            CHECK.due("11: body " + odd, x.body(odd, 0), Check.UNKNOWN);
            CHECK.due("11: what " + odd, x.body(0, odd), Check.OUTSIDE);
        }
    }

    private static void trace(MovedMembers x) {
        CHECK.row("12: how many", new long[] {x.trace(0, 0, 0), x.trace(0, 2, 0), x.trace(1, 1, 0), x.trace(2, 2, 0),
            x.trace(3, 5, 0)}, 4, 1, 3, 3, 4);
        CHECK.row("12: how deep", new long[] {x.trace(0, 0, 1), x.trace(0, 2, 1), x.trace(1, 1, 1), x.trace(2, 2, 1),
            x.trace(3, 5, 1)}, 2, 1, 1, 2, 1);
        CHECK.row("12: none", new long[] {x.trace(0, 1, 0), x.trace(0, 1, 1), x.trace(3, 0, 0)}, -1, -1, -1);
        CHECK.due("12: unknown ahead of outside", x.trace(4, 0, 2), Check.UNKNOWN);
        CHECK.due("12: method 6", x.trace(0, 6, 0), Check.UNKNOWN);
        CHECK.due("12: what 2", x.trace(0, 0, 2), Check.OUTSIDE);
        CHECK.due("12: outside ahead of none", x.trace(0, 1, 2), Check.OUTSIDE);
        for (int odd : STRANGE) {
            CHECK.due("12: class " + odd, x.trace(odd, 0, 0), Check.UNKNOWN);
            CHECK.due("12: method " + odd, x.trace(0, odd, 0), Check.UNKNOWN);
            CHECK.due("12: what " + odd, x.trace(0, 0, odd), Check.OUTSIDE);
        }
        x.hollow(2, true);
        CHECK.due("12: an abstract class has traces", x.trace(2, 2, 0), 3);
        x.hollow(2, false);
    }

    private static void event(MovedMembers x) {
        CHECK.row("13: A a", Check.events(x, 0, 0), 0, 0, 0, 1, 2, 6, 2, 6);
        CHECK.row("13: B a, the hidden b of A", Check.events(x, 1, 0), 0, 0, 0, 1, 2, 6, 2, 6);
        CHECK.row("13: C a, u by the place", Check.events(x, 2, 0), 0, 0, 0, 1, 2, 6, 2, 6);
        CHECK.row("13: B b, a hidden one is not asked", Check.events(x, 1, 1), 0, 3, 3, 1, 2, 19);
        CHECK.row("13: C c", Check.events(x, 2, 2), 0, 4, 0, 2, 3, 3);
        CHECK.row("13: D f, no parent", Check.events(x, 3, 5), 0, 5, 3, 5, 3, 0, 3, 6);
        MovedMembers late = Check.told("A:a(b)b", "B<A:b(^b)", "C<B:b(^ba)");
        CHECK.row("13: by the object", Check.events(late, 2, 0), 0, 0, 0, 3, 0, 2, 0, 1, 1, 0);
        MovedMembers hid = Check.told("A:a(b)b-(c)c", "B<A:b(c)c-");
        CHECK.row("13: hidden by the place", Check.events(hid, 1, 0), 0, 0, 0, 1, 0, 2);
        CHECK.row("13: and where it runs", Check.events(hid, 1, 1), 0, 3, 0, 4);
        CHECK.due("13: event 4", x.event(0, 0, 4, 0), Check.UNKNOWN);
        CHECK.due("13: no answer", x.event(0, 1, 0, 0), Check.UNKNOWN);
        CHECK.due("13: no answer ahead of outside", x.event(0, 1, 0, 2), Check.UNKNOWN);
        CHECK.due("13: no such class", x.event(4, 0, 0, 0), Check.UNKNOWN);
        CHECK.due("13: no such method", x.event(0, 6, 0, 0), Check.UNKNOWN);
        CHECK.due("13: event 4, what 2", x.event(0, 0, 4, 2), Check.UNKNOWN);
        CHECK.due("13: what 2", x.event(0, 0, 0, 2), Check.OUTSIDE);
        for (int odd : STRANGE) {
            CHECK.due("13: class " + odd, x.event(odd, 0, 0, 0), Check.UNKNOWN);
            CHECK.due("13: method " + odd, x.event(0, odd, 0, 0), Check.UNKNOWN);
            CHECK.due("13: event " + odd, x.event(0, 0, odd, 0), Check.UNKNOWN);
            CHECK.due("13: what " + odd, x.event(0, 0, 0, odd), Check.OUTSIDE);
        }
    }

    private static void rounds() {
        MovedMembers x = Check.told("A:a(b)b(ab)c(cc)");
        CHECK.row("13: round", Check.events(x, 0, 0), 0, 0, 0, 1, 1, 0, 1, 1);
        CHECK.row("13: from the other end", Check.events(x, 0, 1), 0, 1, 0, 0, 1, 1, 1, 1);
        CHECK.row("13: itself", Check.events(x, 0, 2), 0, 2, 1, 2, 1, 2);
        CHECK.row("12: rounds do not run", new long[] {x.trace(0, 0, 1), x.trace(0, 2, 1)}, 2, 1);
        MovedMembers twice = Check.told("A:a(bb)b");
        CHECK.row("13: what ended runs again", Check.events(twice, 0, 0), 0, 0, 0, 1, 0, 1);
    }

    /** A body that lies in two classes is one body: in the second class it goes round. */
    private static void roundsOfOneBodyInTwoClasses() {
        MovedMembers x = Check.told("A:a(^a)", "B<A:", "C<A:", "D<B:");
        x.hollow(0, true);
        x.hollow(1, true);
        x.hollow(3, true);
        CHECK.row("13: down to B and C, to D, up to A", new long[] {x.move(0, 0, false), x.move(1, 0, false),
            x.move(2, 0, true)}, 1, 2, 3);
        CHECK.row("13: it lies in A and D", new long[] {x.has(0, 0), x.has(1, 0), x.has(2, 0), x.has(3, 0)}, 0, -1, -1, 0);
        CHECK.row("13: D asks for the same body", Check.events(x, 3, 0), 0, 0, 1, 0);
        CHECK.row("13: B has it from A", Check.events(x, 1, 0), 0, 0, 3, 0);
        MovedMembers y = Check.told("A:a", "B<A:", "C<B:", "D<A:");
        y.hollow(0, true);
        CHECK.due("13: a down to B and D", y.move(0, 0, false), 1);
        CHECK.row("13: the same body", new long[] {y.has(1, 0), y.has(3, 0), y.has(0, 0)}, 0, 0, -1);
        CHECK.row("13: found in", new long[] {y.answer(2, 0, 1), y.answer(3, 0, 1)}, 1, 3);
        CHECK.row("13: it runs", Check.events(y, 2, 0), 0, 0);
    }

    private static void cutAtSixty() {
        MovedMembers x = Check.told("A:a(bbbbbb)b(cccccc)c(uuuuuu)");
        CHECK.row("12: cut", new long[] {x.trace(0, 0, 0), x.trace(0, 0, 1), x.trace(0, 1, 0), x.trace(0, 2, 0)},
            60, 3, 43, 7);
        CHECK.row("13: around the second b", new long[] {x.event(0, 0, 43, 0), x.event(0, 0, 43, 1),
            x.event(0, 0, 44, 0), x.event(0, 0, 44, 1), x.event(0, 0, 45, 1)}, 3, 6, 0, 1, 2);
        CHECK.row("13: the last", new long[] {x.event(0, 0, 59, 0), x.event(0, 0, 59, 1), x.event(0, 0, 60, 0)},
            0, 2, Check.UNKNOWN);
        CHECK.due("23: missing in what is there", x.count(8), 36 + 36 + 6 + 12);
        MovedMembers whole = Check.told("A:a(bbccdd)b(eeeeee)c(efffff)d(ef)efu");
        CHECK.due("12: short of sixty", whole.trace(0, 0, 0), 35);
        MovedMembers behind = Check.told("A:a(bbd)b(cccccc)c(uuuuuu)d(e)e(f)f");
        CHECK.row("12: what comes behind is not there", new long[] {behind.trace(0, 0, 0), behind.trace(0, 0, 1),
            behind.trace(0, 3, 1)}, 60, 3, 3);
        behind.hollow(0, true);
        CHECK.due("22: all of an abstract class is dead", behind.count(7), 6);
    }
}
