/** Promises 19 to 24: contracts, what is common, what is dead, counts, the digest. */
public final class ContractTests {
    private static final Check CHECK = new Check("ContractTests");
    private static final int[] STRANGE = {-1, Integer.MIN_VALUE, Integer.MAX_VALUE};

    public static void main(String[] args) {
        contract();
        fit();
        common();
        dead();
        count();
        digest();
        CHECK.end();
    }

    private static void contract() {
        MovedMembers x = new MovedMembers();
        for (int odd : new int[] {0, 64, -1, Integer.MIN_VALUE, Integer.MAX_VALUE}) {
            CHECK.due("19: methods " + odd, x.contract(odd), Check.OUTSIDE);
        }
        int[] methods = {1, 63, 63, 32, 7, 5};
        for (int n = 0; n < 6; n++) {
            CHECK.due("19: contract", x.contract(methods[n]), n);
            CHECK.due("20: its methods", x.fit(n, 0), methods[n]);
        }
        CHECK.due("19: a seventh", x.contract(1), Check.FULL);
        CHECK.due("19: a seventh that is none", x.contract(0), Check.OUTSIDE);
        CHECK.due("19: six", x.count(4), 6);
    }

    private static void fit() {
        MovedMembers x = new MovedMembers();
        CHECK.due("20: no contract", x.fit(0, 0), Check.UNKNOWN);
        x.contract(1 + 2 + 4);
        CHECK.row("20: no classes", new long[] {x.fit(0, 1), x.fit(0, 2)}, 0, Check.NONE);
        Check.tell(x, "A:a");
        Check.tell(x, "B<A:b-");
        Check.tell(x, "C<B:bc-");
        Check.tell(x, "D<C:cd");
        Check.tell(x, "E:");
        x.contract(1);
        x.contract(16 + 32);
        CHECK.row("20: which fit", new long[] {x.fit(0, 1), x.fit(1, 1), x.fit(2, 1)}, 8, 15, 0);
        CHECK.row("20: lacks fewest, the least of like ones", new long[] {x.fit(0, 2), x.fit(1, 2), x.fit(2, 2)}, 2, 4, 0);
        x.hollow(3, true);
        CHECK.due("20: an abstract class fits", x.fit(0, 1), 8);
        x.drop();
        CHECK.due("20: all fit", x.fit(1, 2), Check.NONE);
        CHECK.due("20: contract 3", x.fit(3, 0), Check.UNKNOWN);
        CHECK.due("20: unknown ahead of outside", x.fit(3, 3), Check.UNKNOWN);
        CHECK.due("20: what 3", x.fit(0, 3), Check.OUTSIDE);
        for (int odd : STRANGE) {
            CHECK.due("20: contract " + odd, x.fit(odd, 0), Check.UNKNOWN);
            CHECK.due("20: what " + odd, x.fit(0, odd), Check.OUTSIDE);
        }
    }

    private static void common() {
        MovedMembers x = new MovedMembers();
        CHECK.due("21: no classes", x.common(1), Check.OUTSIDE);
        x = Check.told("A:abc", "B<A:ad-e-", "C:bd", "D<C:a");
        CHECK.row("21: one", new long[] {x.common(1), x.common(2), x.common(4), x.common(8)}, 7, 7, 10, 11);
        CHECK.row("21: several", new long[] {x.common(3), x.common(5), x.common(9), x.common(12), x.common(15)},
            7, 2, 3, 10, 2);
        x.hollow(2, true);
        CHECK.due("21: abstract ones, too", x.common(12), 10);
        for (int odd : new int[] {0, 16, 17, 31, -1, Integer.MIN_VALUE, Integer.MAX_VALUE}) {
            CHECK.due("21: types " + odd, x.common(odd), Check.OUTSIDE);
        }
        MovedMembers eight = Check.told("A:a", "B:a", "C:a", "D:a", "E:a", "F:a", "G:a", "H:ab");
        CHECK.row("21: eight", new long[] {eight.common(255), eight.common(128), eight.common(256)},
            1, 3, Check.OUTSIDE);
    }

    private static void dead() {
        MovedMembers x = Check.told("A:a(b)b-c-", "B<A:a", "C<B:d(^a)");
        long[] row = new long[5];
        for (int body = 0; body < 5; body++) {
            row[body] = x.dead(body);
        }
        CHECK.row("22: dead", row, 0, 0, 1, 0, 0);
        x.hollow(0, true);
        CHECK.row("22: with A abstract", new long[] {x.dead(0), x.dead(1), x.dead(3), x.count(7)}, 1, 1, 0, 3);
        CHECK.due("22: body 5", x.dead(5), Check.UNKNOWN);
        for (int odd : STRANGE) {
            CHECK.due("22: body " + odd, x.dead(odd), Check.UNKNOWN);
        }
        MovedMembers cut = Check.told("A:a(bbe)b-(cccccc)c-(dddddd)d-e-");
        CHECK.row("22: behind the cut nothing runs", new long[] {cut.trace(0, 0, 0), cut.dead(3), cut.dead(4),
            cut.count(7)}, 60, 0, 1, 1);
    }

    private static void count() {
        MovedMembers x = Check.told("A:a(bu)", "B<A:b(^c)v", "C<B:c-");
        x.contract(3);
        x.contract(4);
        x.move(1, 7, true);
        x.move(0, 7, false);
        x.undo();
        Check.page(x, "D<A");
        long[] row = new long[9];
        for (int what = 0; what < 9; what++) {
            row[what] = x.count(what);
        }
        // Missing: A a has b and u; B a has c and u, B b has c; C a and b as B.
        CHECK.row("23: count", row, 3, 3, 3, 1, 2, 2, 1, 1, 2 + 3 + 3);
        for (int odd : new int[] {-1, 9, Integer.MIN_VALUE, Integer.MAX_VALUE}) {
            CHECK.due("23: what " + odd, x.count(odd), Check.OUTSIDE);
        }
        x.hollow(1, true);
        CHECK.row("23: without objects of B", new long[] {x.count(8), x.count(3), x.count(5), x.count(6)}, 5, 0, 2, 1);
    }

    private static void digest() {
        digestIsAsTold("of a new object", new MovedMembers(), "");
        digestIsAsTold("of one class", Check.told("A:a(bbbbbb)b(cccccc)c(uuuuuu)"), "");
        digestIsAsTold("of three classes", forDigest(), "");
        MovedMembers x = withAll();
        digestIsAsTold("of all", x, "D<A:~ ");
        long before = x.digest();
        CHECK.due("24: it changes nothing", x.digest(), before);
        x.letter('a');
        CHECK.holds("24: a letter more", x.digest() != before);
    }

    private static MovedMembers forDigest() {
        return Check.told("A:a(bb)b(cc)c(u)", "B<A:b-(^b)uw", "C<B:d(wx)");
    }

    private static MovedMembers withAll() {
        MovedMembers x = forDigest();
        x.contract(9);
        x.contract(63);
        x.hollow(0, true);
        x.move(1, 8, true);
        Check.page(x, "D<A:~ ");
        return x;
    }

    private static void digestIsAsTold(String what, MovedMembers x, String page) {
        CHECK.due("24: digest " + what, x.digest(), digestByCalls(x, page));
    }

    private static long digestByCalls(MovedMembers x, String page) {
        long h = 1663;
        for (int type = 0; type < x.count(1); type++) {
            for (int n = 0; n <= 6; n++) h = 31 * h + x.of(type, n);
            for (int n = 0; n <= 11; n++) h = 31 * h + x.has(type, n);
            for (int method = 0; method <= 5; method++) {
                h = 31 * h + x.answer(type, method, 0);
                h = 31 * h + x.answer(type, method, 1);
                int events = x.trace(type, method, 0);
                h = 31 * h + events;
                h = 31 * h + x.trace(type, method, 1);
                for (int n = 0; n < events; n++) {
                    h = 31 * h + x.event(type, method, n, 0);
                    h = 31 * h + x.event(type, method, n, 1);
                }
            }
        }
        for (int body = 0; body < x.count(2); body++) {
            h = 31 * h + x.body(body, 0);
            for (int n = 10; n <= 15; n++) h = 31 * h + x.body(body, n);
            h = 31 * h + x.dead(body);
        }
        for (int n = 0; n <= 2; n++) h = 31 * h + x.moves(n);
        for (int contract = 0; contract < x.count(4); contract++) {
            for (int n = 0; n <= 2; n++) h = 31 * h + x.fit(contract, n);
        }
        for (int n = 0; n < page.length(); n++) h = 31 * h + page.charAt(n);
        for (int n = 0; n <= 8; n++) h = 31 * h + x.count(n);
        return h;
    }
}
