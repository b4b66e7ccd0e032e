/** Promises 1 to 7: a new object, the page, classes that come and go, abstract ones. */
public final class TextTests {
    private static final Check CHECK = new Check("TextTests");

    public static void main(String[] args) {
        newObject();
        letter();
        blank();
        fault();
        faultWithClasses();
        typeReads();
        typeRefuses();
        typeIsFull();
        drop();
        dropOfWhatWasMoved();
        hollow();
        CHECK.end();
    }

    private static void newObject() {
        MovedMembers x = new MovedMembers();
        for (int what = 0; what <= 8; what++) {
            CHECK.due("1: new count " + what, x.count(what), 0);
        }
        CHECK.due("1: new of", x.of(0, 0), Check.UNKNOWN);
        CHECK.due("1: new body", x.body(0, 0), Check.UNKNOWN);
        CHECK.due("1: new drop", x.drop(), Check.STATE);
        CHECK.due("1: new fault", x.fault(), 0);
        long h = 1663;
        for (int zero = 0; zero < 3 + 9; zero++) {
            h *= 31;
        }
        CHECK.due("1: new digest", x.digest(), h);
        MovedMembers other = Check.told("A:a");
        CHECK.due("1: objects share nothing", x.count(1) + other.count(1), 1);
    }

    private static void letter() {
        MovedMembers x = new MovedMembers();
        for (int code : new int[] {31, 127, 0, -1, 65 + 65536, Integer.MIN_VALUE, Integer.MAX_VALUE}) {
            CHECK.due("2: letter " + code, x.letter(code), Check.OUTSIDE);
        }
        CHECK.due("2: nothing came", x.count(0), 0);
        CHECK.due("2: letter 32", x.letter(32), 1);
        CHECK.due("2: letter 126", x.letter(126), 2);
        for (int n = 3; n <= 40; n++) {
            CHECK.due("2: letter", x.letter(65), n);
        }
        CHECK.due("2: the 41st", x.letter(65), Check.FULL);
        CHECK.due("2: the 41st, no letter", x.letter(31), Check.OUTSIDE);
        CHECK.due("2: still 40", x.count(0), 40);
    }

    private static void blank() {
        MovedMembers x = new MovedMembers();
        CHECK.due("3: blank of nothing", x.blank(), 0);
        Check.page(x, "A:a");
        CHECK.due("3: blank of three", x.blank(), 3);
        CHECK.due("3: blank again", x.blank(), 0);
        CHECK.due("3: letters begin anew", x.letter('A'), 1);
    }

    private static void faultIs(MovedMembers x, String text, int place) {
        x.blank();
        Check.page(x, text);
        CHECK.due("4: fault of " + text, x.fault(), place);
        CHECK.due("4: fault leaves " + text, x.blank(), text.length());
    }

    private static void fault() {
        MovedMembers x = new MovedMembers();
        String[] sound = {"", "A", "A:", "A:a", "A:a-", "A:a(", "A:a-(", "A:a(b", "A:a(^", "A:a(^b", "A:a(u)", "A:a-b-c",
            "A:uvwxyz", "A:zyxwvufedcba", "A:a(aaaaaa)", "A:a(^a^a^a^a^a^a)u", "A:a(bbbbb^"};
        for (String text : sound) {
            faultIs(x, text, text.length());
        }
        faultIs(x, "B", 0);
        faultIs(x, "a", 0);
        faultIs(x, " A", 0);
        faultIs(x, "A<", 1);
        faultIs(x, "A<A:", 1);
        faultIs(x, "AA", 1);
        faultIs(x, "A::", 2);
        faultIs(x, "A:g", 2);
        faultIs(x, "A:t", 2);
        faultIs(x, "A:{", 2);
        faultIs(x, "A:`", 2);
        faultIs(x, "A:(", 2);
        faultIs(x, "A:-", 2);
        faultIs(x, "A:aa", 3);
        faultIs(x, "A:a-a", 4);
        faultIs(x, "A:a(b)ba", 7);
        faultIs(x, "A:uu", 3);
        faultIs(x, "A:u-", 3);
        faultIs(x, "A:u(", 3);
        faultIs(x, "A:a--", 4);
        faultIs(x, "A:a()", 4);
        faultIs(x, "A:a(b)(", 6);
        faultIs(x, "A:a(b)-", 6);
        faultIs(x, "A:a(-", 4);
        faultIs(x, "A:a((", 4);
        faultIs(x, "A:a(^u", 5);
        faultIs(x, "A:a(^^", 5);
        faultIs(x, "A:a(^)", 5);
        faultIs(x, "A:a(bcdefab", 10);
        faultIs(x, "A:a(bcdefa^", 10);
        faultIs(x, "A:a)", 3);
        faultIs(x, "A:a<", 3);
        faultIs(x, "A:zyxwvufedcbaa", 14);
        faultIs(x, "A:aaBB((", 3);
    }

    private static void faultWithClasses() {
        MovedMembers x = Check.told("A:", "B:");
        faultIs(x, "C<A:", 4);
        faultIs(x, "C<B:a", 5);
        faultIs(x, "C<", 2);
        faultIs(x, "C<C", 2);
        faultIs(x, "C<a", 2);
        faultIs(x, "C<@", 2);
        faultIs(x, "C<A<", 3);
        faultIs(x, "C<Aa", 3);
        faultIs(x, "B:", 0);
        faultIs(x, "D:", 0);
        x = Check.told("A:", "B:", "C:", "D:", "E:", "F:", "G:", "H:");
        faultIs(x, "I:", 2);
        faultIs(x, "I<H:a(^b)", 9);
        faultIs(x, "I<I", 2);
        faultIs(x, "H:", 0);
    }

    private static void typeReads() {
        MovedMembers x = new MovedMembers();
        CHECK.due("5: first", Check.tell(x, "A:b(a^cu)u-".substring(0, 10)), 0);
        CHECK.due("5: the page is empty", x.count(0), 0);
        CHECK.due("5: second", Check.tell(x, "B<A:c-za-(zc)x"), 1);
        CHECK.row("5: of A", Check.of(x, 0), Check.NONE, 0, 2, 0, 1, 2, 2);
        CHECK.row("5: has of A", Check.has(x, 0), -1, 0, -1, -1, -1, -1, 6, -1, -1, -1, -1, -1);
        CHECK.row("5: of B", Check.of(x, 1), 0, 0, 5, 5, 8 + 32, 2, 0);
        CHECK.row("5: has of B, bodies as told", Check.has(x, 1), 2, -1, 1, -1, -1, -1, -1, -1, -1, 21, -1, 23);
        CHECK.due("5: bodies", x.count(2), 3);
        CHECK.due("5: a class without a parent", Check.tell(x, "C:"), 2);
        CHECK.due("5: its parent", x.of(2, 0), Check.NONE);
    }

    private static void typeRefuses() {
        MovedMembers x = new MovedMembers();
        for (String text : new String[] {"", "A", "B:", "A:a(", "A:a(b", "A:a(^", "A:aa", "A<A:", "A:a(bcdefab)", "A:u-"}) {
            x.blank();
            Check.page(x, text);
            CHECK.due("5: no class is " + text, x.type(), Check.STATE);
            CHECK.due("5: the page stays " + text, x.count(0), text.length());
        }
        CHECK.due("5: none came", x.count(1) + x.count(2), 0);
        CHECK.due("5: ends in a dash", Check.tell(x, "A:a-"), 0);
        CHECK.due("5: a dash hides", x.of(0, 3), 1);
    }

    private static void typeIsFull() {
        MovedMembers x = Check.told("A:abcdef", "B:abcdef", "C:abcdef", "D:abcdef", "E:abcdef", "F:abcdef");
        CHECK.due("5: 36 bodies", x.count(2), 36);
        CHECK.due("5: 41 bodies", Check.tell(x, "G:abcdeu"), Check.FULL);
        CHECK.due("5: a full one leaves the page", x.blank(), 8);
        CHECK.due("5: 40 bodies", Check.tell(x, "G:abcdu"), 6);
        CHECK.due("5: the last body", x.has(6, 3), 39);
        CHECK.due("5: one more", Check.tell(x, "H:f"), Check.FULL);
        CHECK.due("5: 40 bodies, no class", Check.tell(x, "H:ff"), Check.STATE);
        CHECK.due("5: fields alone", Check.tell(x, "H:uvwxyz"), 7);
        CHECK.due("5: the last slot", x.has(7, 11), 95);
        CHECK.due("5: a ninth", Check.tell(x, "I<H:"), Check.FULL);
        CHECK.due("5: a ninth that is none", Check.tell(x, "J:"), Check.STATE);
        CHECK.due("5: eight", x.count(1), 8);
    }

    private static void drop() {
        MovedMembers x = new MovedMembers();
        CHECK.due("6: drop of nothing", x.drop(), Check.STATE);
        x = Check.told("A:a(b)u", "B<A:b(u)v", "C<B:c(ab)a-");
        CHECK.due("6: hollow of the last", x.hollow(2, true), 0);
        x.letter('D');
        CHECK.due("6: drop", x.drop(), 2);
        CHECK.due("6: the page stays", x.count(0), 1);
        CHECK.due("6: bodies left", x.count(2), 2);
        CHECK.due("6: it is gone", x.of(2, 0), Check.UNKNOWN);
        CHECK.due("6: its bodies too", x.body(2, 0), Check.UNKNOWN);
        CHECK.due("6: none below B", x.of(1, 6), 0);
        CHECK.due("6: another C", Check.tell(x, "C<A:d(^a)"), 2);
        CHECK.row("6: of C", Check.of(x, 2), 0, 0, 8, 0, 0, 9, 0);
        CHECK.due("6: a number comes again", x.has(2, 3), 2);
        CHECK.row("6: its items", new long[] {x.body(2, 0), x.body(2, 10), x.body(2, 11)}, 1, 20, Check.NONE);
        CHECK.row("6: all dropped", new long[] {x.drop(), x.drop(), x.drop(), x.drop()}, 2, 1, 0, Check.STATE);
        CHECK.due("6: no bodies", x.count(2), 0);
    }

    private static void dropOfWhatWasMoved() {
        MovedMembers x = Check.told("A:", "B<A:a");
        CHECK.due("6: a body up", x.move(1, 0, true), 1);
        CHECK.due("6: it lies in A", x.drop(), Check.STATE);
        CHECK.due("6: nothing ended", x.count(3), 1);
        CHECK.due("6: back again", x.undo(), 0);
        CHECK.due("6: now it goes", x.drop(), 1);
        CHECK.due("6: B again", Check.tell(x, "B<A:v"), 1);
        CHECK.due("6: a slot up", x.move(1, 7, true), 1);
        CHECK.due("6: it lies in A, too", x.drop(), Check.STATE);
        x.undo();
        CHECK.due("6: a slot back", x.drop(), 1);

        x = Check.told("A:a(u)u", "B<A:");
        x.hollow(0, true);
        CHECK.due("6: a slot down first", x.why(0, 6, false), 4);
        CHECK.due("6: a body down", x.move(0, 0, false), 1);
        CHECK.due("6: B goes with A's body", x.drop(), 1);
        CHECK.due("6: none is kept", x.count(3), 0);
        CHECK.row("6: the body is in no class", Check.has(x, 0), -1, -1, -1, -1, -1, -1, 6, -1, -1, -1, -1, -1);
        CHECK.row("6: but still a body", new long[] {x.count(2), x.body(0, 0), x.body(0, 10), x.dead(0)}, 1, 1, 6, 1);
        CHECK.due("6: B comes", Check.tell(x, "B<A:a"), 1);
        CHECK.due("6: with the next number", x.has(1, 0), 1);
    }

    private static void hollow() {
        MovedMembers x = Check.told("A:a", "B<A:b(c)u");
        CHECK.due("7: hollow of none", x.hollow(2, true), Check.UNKNOWN);
        CHECK.due("7: hollow of -1", x.hollow(-1, true), Check.UNKNOWN);
        CHECK.due("7: it was not", x.hollow(1, true), 0);
        CHECK.due("7: it was", x.hollow(1, true), 1);
        CHECK.due("7: it is", x.of(1, 1), 1);
        CHECK.due("7: the other is not", x.of(0, 1), 0);
        CHECK.row("7: no objects", new long[] {x.dead(1), x.count(7), x.count(8)}, 1, 1, 0);
        CHECK.due("7: no longer", x.hollow(1, false), 1);
        CHECK.due("7: it was not then", x.hollow(1, false), 0);
        CHECK.row("7: objects again", new long[] {x.dead(1), x.count(7), x.count(8)}, 0, 0, 1);
        CHECK.due("7: a move", x.move(1, 6, true), 1);
        CHECK.due("7: an unknown ends nothing", x.hollow(9, false) + x.count(3), Check.UNKNOWN + 1);
        CHECK.due("7: what stays ends it", x.hollow(0, false), 0);
        CHECK.row("7: none is kept", new long[] {x.count(3), x.undo(), x.count(5)}, 0, Check.STATE, 1);
    }
}
