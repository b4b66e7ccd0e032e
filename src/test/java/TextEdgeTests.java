/** The edges that the document names for promises 1 to 7, each under the document's own words. */
public final class TextEdgeTests {
    private static final Check CHECK = new Check("TextEdgeTests");
    private static final String[] EIGHT = {"A:", "B:", "C:", "D:", "E:", "F:", "G:", "H:"};
    private static final int[] NO_CODES = {31, 127, 0, -1, -32, 128, 65 + 256, Integer.MIN_VALUE, Integer.MAX_VALUE};
    private static final String METHODS = "abcdef";
    private static final String FIELDS = "uvwxyz";

    public static void main(String[] args) {
        newObjectHasNone();
        letterOutside();
        letterFull();
        letterComesBehind();
        blank();
        faultOfTheHead();
        faultOfMembers();
        faultOfItems();
        faultIsTheFirst();
        faultWithEight();
        faultKnowsNoOtherLimit();
        typeIsNone();
        typeIsWhole();
        typeEightAtMost();
        typeFortyBodies();
        typeBodiesInAll();
        typeNumbers();
        dropOfNone();
        dropTakesTheLast();
        dropChangesWhatRuns();
        dropOfBodiesThatLieElsewhere();
        dropOfSlotsThatLieElsewhere();
        dropOfWhatLiesInIt();
        hollow();
        CHECK.end();
    }

    private static void newObjectHasNone() {
        CHECK.about(1, "No CLASSES.");
        MovedMembers x = new MovedMembers();
        CHECK.row("counts", Check.counts(x), 0, 0, 0, 0, 0, 0, 0, 0, 0);
        CHECK.row("no number names a class", new long[] {x.hollow(0, false), x.of(0, 0), x.has(0, 0), x.answer(0, 0, 0),
            x.trace(0, 0, 0), x.event(0, 0, 0, 0), x.why(0, 0, true), x.where(0, 0, true), x.move(0, 0, true)},
            Check.UNKNOWN, Check.UNKNOWN, Check.UNKNOWN, Check.UNKNOWN, Check.UNKNOWN, Check.UNKNOWN, Check.UNKNOWN,
            Check.UNKNOWN, Check.UNKNOWN);
        CHECK.row("nor a body, nor a contract", new long[] {x.body(0, 0), x.dead(0), x.fit(0, 0)},
            Check.UNKNOWN, Check.UNKNOWN, Check.UNKNOWN);
        CHECK.row("nothing to take away", new long[] {x.drop(), x.undo(), x.type(), x.common(1)},
            Check.STATE, Check.STATE, Check.STATE, Check.OUTSIDE);
        CHECK.row("no moves", new long[] {x.moves(0), x.moves(1), x.moves(2), x.blank(), x.fault()}, 0, 0, 0, 0, 0);
        CHECK.due("digest", x.digest(), Check.digestOf(0, 0, 0, 0, 0, 0, 0, 0, 0, 0, 0, 0));
    }

    private static void letterOutside() {
        CHECK.about(2, "OUTSIDE: code (32 to 126)");
        MovedMembers x = new MovedMembers();
        x.letter('A');
        for (int code : NO_CODES) {
            CHECK.refused(x, "letter(" + code + ")", () -> x.letter(code), Check.OUTSIDE);
        }
        for (int code = 32; code <= 126; code++) {
            if (x.count(0) == 40) {
                x.blank();
            }
            int had = x.count(0);
            CHECK.due("letter(" + code + ")", x.letter(code), had + 1);
        }
    }

    private static void letterFull() {
        CHECK.about(2, "FULL: above 40.");
        MovedMembers x = new MovedMembers();
        for (int n = 1; n <= 40; n++) {
            CHECK.due("letter " + n, x.letter(' '), n);
        }
        CHECK.refused(x, "the 41st", () -> x.letter('A'), Check.FULL);
        CHECK.refused(x, "the 41st again", () -> x.letter(126), Check.FULL);
        CHECK.about(2, "Refusals, of several the first as told by each call");
        CHECK.refused(x, "outside ahead of full, below", () -> x.letter(31), Check.OUTSIDE);
        CHECK.refused(x, "outside ahead of full, above", () -> x.letter(127), Check.OUTSIDE);
        CHECK.about(3, "THE PAGE is empty: how many letters it had.");
        CHECK.row("a full page", new long[] {x.blank(), x.count(0), x.letter('A')}, 40, 0, 1);
    }

    private static void letterComesBehind() {
        CHECK.about(2, "A letter comes behind THE PAGE");
        MovedMembers x = new MovedMembers();
        Check.page(x, "~ A");
        CHECK.due("the letters in order", x.digest(), Check.digestOf(0, 0, 0, 126, 32, 65, 3, 0, 0, 0, 0, 0, 0, 0, 0));
        MovedMembers whole = new MovedMembers();
        Check.page(whole, "A:a(^b^c^d^e^f^a)b(^a^a^a^a^a^a)c(uvwxy)");
        CHECK.row("a class of forty letters", new long[] {whole.count(0), whole.fault(), whole.type(), whole.count(0)},
            40, 40, 0, 0);
        CHECK.row("its last items", new long[] {whole.body(2, 0), whole.body(2, 14), whole.body(2, 15)}, 5, 10, -1);
    }

    private static void blank() {
        CHECK.about(3, "THE PAGE is empty: how many letters it had.");
        MovedMembers x = Check.told("A:u", "B<A:");
        x.move(0, 6, false);
        long before = x.digest();
        CHECK.due("an empty page", x.blank(), 0);
        x.letter('C');
        CHECK.due("one letter", x.blank(), 1);
        CHECK.due("nothing else is changed", x.digest(), before);
        CHECK.row("no letter is left", new long[] {x.fault(), x.type(), x.letter('C'), x.letter(':'), x.type()},
            0, Check.STATE, 1, 2, 2);
    }

    /** Every code behind some letters: those that a class can have there, and no others. */
    private static void goesOn(String[] texts, String letters, String next) {
        for (int code = 32; code <= 126; code++) {
            MovedMembers x = Check.told(texts);
            Check.page(x, letters);
            CHECK.due("fault of " + letters, x.fault(), letters.length());
            x.letter(code);
            CHECK.due("fault of " + letters + (char) code, x.fault(), letters.length() + (next.indexOf(code) >= 0 ? 1 : 0));
        }
    }

    private static void faultOfTheHead() {
        CHECK.about(4, "its letter (the next one)");
        goesOn(new String[0], "", "A");
        goesOn(new String[] {"A:"}, "", "B");
        CHECK.about(4, "perhaps '<' and the letter of one that came ahead");
        goesOn(new String[0], "A", ":");
        goesOn(new String[] {"A:"}, "B", "<:");
        goesOn(new String[] {"A:"}, "B<", "A");
        goesOn(new String[] {"A:", "B:"}, "C<", "AB");
        goesOn(new String[] {"A:", "B:"}, "C<B", ":");
    }

    private static void faultOfMembers() {
        CHECK.about(4, "METHODS are 'a' to 'f' (numbers 0 to 5), FIELDS 'u' to 'z' (6 to 11)");
        goesOn(new String[0], "A:", METHODS + FIELDS);
        goesOn(new String[] {"A:"}, "B<A:", METHODS + FIELDS);
        CHECK.about(4, "its MEMBERS, one behind the other, none twice");
        goesOn(new String[0], "A:u", METHODS + "vwxyz");
        goesOn(new String[0], "A:fz", "abcdeuvwxy");
        goesOn(new String[0], "A:abcdefuvwxyz", "");
        goesOn(new String[0], "A:uvwxyzabcde-", "(f");
        CHECK.about(4, "a METHOD: its letter, perhaps '-' (it is HIDDEN), perhaps '('");
        goesOn(new String[0], "A:a", "-(bcdef" + FIELDS);
        goesOn(new String[0], "A:a-", "(bcdef" + FIELDS);
        goesOn(new String[0], "A:a(b)", "bcdef" + FIELDS);
        goesOn(new String[0], "A:a-(b)", "bcdef" + FIELDS);
        goesOn(new String[0], "A:uvwxyzabcdef", "-(");
        goesOn(new String[0], "A:uvwxyzabcdef-", "(");
        goesOn(new String[0], "A:uvwxyzabcdef-(a)", "");
    }

    private static void faultOfItems() {
        CHECK.about(4, "one to six ITEMS");
        goesOn(new String[0], "A:a(", "^" + METHODS + FIELDS);
        goesOn(new String[0], "A:a-(", "^" + METHODS + FIELDS);
        goesOn(new String[0], "A:a(a", ")^" + METHODS + FIELDS);
        goesOn(new String[0], "A:a(u", ")^" + METHODS + FIELDS);
        goesOn(new String[0], "A:a(^a", ")^" + METHODS + FIELDS);
        goesOn(new String[0], "A:a(bbuu^a", ")^" + METHODS + FIELDS);
        goesOn(new String[0], "A:a(bbuu^az", ")");
        goesOn(new String[0], "A:a(^a^a^a^a^a^a", ")");
        goesOn(new String[0], "A:b(cccccc)a(ccccc", ")^" + METHODS + FIELDS);
        CHECK.about(4, "'^' and such a letter (an ASK)");
        goesOn(new String[0], "A:a(^", METHODS);
        goesOn(new String[0], "A:a(bbuuz^", METHODS);
    }

    private static void faultIs(MovedMembers x, String text, int place) {
        x.blank();
        Check.page(x, text);
        CHECK.due("fault of " + text, x.fault(), place);
    }

    private static void faultIsTheFirst() {
        CHECK.about(4, "The place (from 0) of the first letter of THE PAGE that no CLASS that comes next has there");
        MovedMembers x = new MovedMembers();
        faultIs(x, "BA:", 0);
        faultIs(x, "A;;;", 1);
        faultIs(x, "A:aa(u))--", 3);
        faultIs(x, "A:a(b)(c)", 6);
        faultIs(x, "A:uvwxyzabcdef(aaaaaa)                  ", 22);
        CHECK.about(4, "how many letters it has, if there is none.");
        faultIs(x, "", 0);
        faultIs(x, "A", 1);
        faultIs(x, "A:abcdef(uvwxyz)u", 17);
        faultIs(x, "A:a(^b^c^d^e^f^a)b(^a^a^a^a^a^a)c(uvwxyz", 40);
        long before = x.digest();
        CHECK.row("fault changes nothing", new long[] {x.fault(), x.fault(), x.digest()}, 40, 40, before);
    }

    private static void faultWithEight() {
        CHECK.about(4, "also if there are 8: then its letter would be 'I'");
        goesOn(EIGHT, "", "I");
        goesOn(EIGHT, "I", "<:");
        goesOn(EIGHT, "I<", "ABCDEFGH");
        goesOn(EIGHT, "I<H:a(", "^" + METHODS + FIELDS);
    }

    private static MovedMembers withForty() {
        return Check.told("A:abcdef", "B:abcdef", "C:abcdef", "D:abcdef", "E:abcdef", "F:abcdef", "G:abcd");
    }

    private static void faultKnowsNoOtherLimit() {
        CHECK.about(4, "no CLASS that comes next has there");
        MovedMembers x = withForty();
        faultIs(x, "H:abcdef", 8);
        faultIs(x, "H:aa", 3);
    }

    private static void typeIsNone() {
        CHECK.about(5, "STATE: it is none");
        for (String text : new String[] {"", "B", "B<", "B<A", "B<A:a(", "B<A:a-(", "B:a(b", "B:a(^", "B:a(^b", "B:a(bbbbbb",
            "A:", "C:", "B<B:", "B<C:", "B:aa", "B:uu", "B:a()", "B:a(bbbbbbb)", "B:u-", "B:u(a)", "B:a--", "B:a(u)-",
            "B:a(^u)", "B: ", "B: a", " B:", "b:", "B:A", "B:g", "B:t", "B<<A:", "B:a(b)(c)", "B:a)"}) {
            MovedMembers x = Check.told("A:a(u)u");
            Check.page(x, text);
            CHECK.refused(x, "type of " + text, x::type, Check.STATE);
        }
    }

    private static void typeIsWhole() {
        CHECK.about(5, "its MEMBERS, one behind the other, none twice (none at all, too)");
        CHECK.row("of no members", Check.of(Check.told("A:", "B<A:"), 1), 0, 0, 0, 0, 0, 0, 0);
        MovedMembers all = Check.told("A:", "B:zyxwvufedcba");
        CHECK.row("of all members", Check.of(all, 1), -1, 0, 63, 0, 63, 63, 0);
        CHECK.row("numbered as they come", Check.has(all, 1), 5, 4, 3, 2, 1, 0, 18, 19, 20, 21, 22, 23);
        CHECK.about(5, "perhaps '-' (it is HIDDEN), perhaps '(', one to six ITEMS, ')'");
        String[] ends = {"A:a", "A:a-", "A:a(b)", "A:a-(b)", "A:a(bbbbbb)", "A:a-(^b^b^b^b^b^b)"};
        int[] items = {0, 0, 1, 1, 6, 6};
        for (int n = 0; n < ends.length; n++) {
            MovedMembers x = Check.told(ends[n]);
            CHECK.row(ends[n], new long[] {x.count(0), x.count(1), x.body(0, 0), x.of(0, 3)}, 0, 1, items[n], n % 2);
        }
        MovedMembers some = Check.told("A:a-bc-(b)d(b)e-f");
        CHECK.row("hidden each by itself", new long[] {some.of(0, 2), some.of(0, 3), some.of(0, 5)}, 63, 21, 42);
    }

    private static void typeEightAtMost() {
        CHECK.about(5, "FULL: there are 8");
        MovedMembers x = Check.told("A:", "B:", "C:", "D:", "E:", "F:", "G:");
        CHECK.due("the eighth", Check.tell(x, "H<A:u"), 7);
        Check.page(x, "I<H:");
        CHECK.refused(x, "a ninth", x::type, Check.FULL);
        CHECK.due("THE PAGE is not empty then", x.blank(), 4);
        CHECK.about(5, "Refusals, of several the first as told by each call");
        Check.page(x, "I<I:");
        CHECK.refused(x, "a ninth that is none", x::type, Check.STATE);
        x.blank();
        CHECK.refused(x, "an empty page with eight", x::type, Check.STATE);
        CHECK.row("room behind a drop", new long[] {x.drop(), Check.tell(x, "H:"), Check.tell(x, "I:")}, 7, 7, Check.FULL);
    }

    private static void typeFortyBodies() {
        CHECK.about(5, "or there would be more than 40 BODIES");
        MovedMembers x = Check.told("A:abcdef", "B:abcdef", "C:abcdef", "D:abcdef", "E:abcdef", "F:abcdef");
        Check.page(x, "G:abcde");
        CHECK.refused(x, "41", x::type, Check.FULL);
        x.blank();
        CHECK.row("40", new long[] {Check.tell(x, "G:abcd"), x.count(2), x.has(6, 3)}, 6, 40, 39);
        Check.page(x, "H:a-");
        CHECK.refused(x, "one more", x::type, Check.FULL);
        x.blank();
        CHECK.about(5, "Refusals, of several the first as told by each call");
        Check.page(x, "H:a-a");
        CHECK.refused(x, "none, and one more", x::type, Check.STATE);
        CHECK.about(5, "Each METHOD told has a BODY of its own");
        CHECK.row("fields have none", new long[] {Check.tell(x, "H<G:uvwxyz"), x.count(2), x.has(7, 11)}, 7, 40, 95);
        MovedMembers y = withForty();
        CHECK.row("room behind a drop", new long[] {y.drop(), y.count(2), Check.tell(y, "G:abcde"), Check.tell(y, "G:efab"),
            y.has(6, 4), y.has(6, 1)}, 6, 36, Check.FULL, 6, 36, 39);
    }

    /** A body that lies in two classes is one, and one that lies in no class any longer is still told. */
    private static void typeBodiesInAll() {
        CHECK.about(5, "numbered from 0 as they come; 40 at most in all");
        MovedMembers x = Check.told("A:abcdef", "B<A:", "C<A:");
        for (int method = 0; method < 6; method++) {
            x.hollow(0, true);
            CHECK.due("down to two", x.move(0, method, false), 1);
        }
        CHECK.row("six bodies in twelve places", new long[] {x.count(2), x.of(0, 2), x.of(1, 2), x.of(2, 2)}, 6, 0, 63, 63);
        CHECK.row("the next number", new long[] {Check.tell(x, "D:c"), x.has(3, 2), x.count(2)}, 3, 6, 7);
    }

    private static void typeNumbers() {
        CHECK.about(5, "Each FIELD told is a SLOT: 12 times the number of its CLASS, and its number.");
        MovedMembers x = Check.told("A:uz", "B:uz", "C:", "D:", "E:", "F:", "G:", "H:uz");
        CHECK.row("slots", new long[] {x.has(0, 6), x.has(0, 11), x.has(1, 6), x.has(1, 11), x.has(7, 6), x.has(7, 11)},
            6, 11, 18, 23, 90, 95);
        CHECK.about(5, "CLASSES (8 at most) are 'A', 'B' and so on in the order in which they come, numbered from 0.");
        MovedMembers y = new MovedMembers();
        for (int n = 0; n < 8; n++) {
            CHECK.due(EIGHT[n], Check.tell(y, EIGHT[n]), n);
        }
        CHECK.about(5, "Some CLASSES are ABSTRACT (none at first)");
        MovedMembers z = Check.told("A:a", "B:a");
        z.hollow(1, true);
        z.drop();
        CHECK.row("nor is one that comes again", new long[] {Check.tell(z, "B:a"), z.of(1, 1), z.dead(1)}, 1, 0, 0);
    }

    private static void dropOfNone() {
        CHECK.about(6, "STATE: there are none.");
        MovedMembers x = new MovedMembers();
        Check.page(x, "A:");
        CHECK.refused(x, "drop of none", x::drop, Check.STATE);
        CHECK.row("the only one", new long[] {x.type(), x.drop(), x.count(1)}, 0, 0, 0);
        CHECK.refused(x, "drop of none again", x::drop, Check.STATE);
    }

    private static void dropTakesTheLast() {
        CHECK.about(6, "how many are left");
        MovedMembers x = Check.told("A:a", "B<A:b-(a)v", "C<A:c");
        x.contract(4);
        Check.page(x, "~");
        CHECK.row("the last of three", new long[] {x.drop(), x.count(1), x.count(2), x.of(0, 6), x.of(2, 0), x.fit(0, 1)},
            2, 2, 2, 2, Check.UNKNOWN, 0);
        CHECK.row("the page and the contracts stay", new long[] {x.count(0), x.count(4)}, 1, 1);
        CHECK.about(6, "numbers of BODIES that were told with it may come again");
        CHECK.row("the number again", new long[] {x.body(2, 0), Check.tell(x, "C:d(zz)"), x.has(2, 3), x.body(2, 0)},
            Check.UNKNOWN, 2, 2, 2);
        CHECK.row("nothing of the one that went", Check.of(x, 2), -1, 0, 8, 0, 0, 8, 0);
        CHECK.row("two go", new long[] {x.drop(), x.drop(), Check.tell(x, "B:"), x.of(1, 3), x.count(2)}, 2, 1, 1, 0, 1);
        CHECK.row("nothing of what was hidden", Check.has(x, 1), -1, -1, -1, -1, -1, -1, -1, -1, -1, -1, -1, -1);
    }

    /** Asked ahead of it and behind it: what ran for the class that is gone is not answered for another. */
    private static void dropChangesWhatRuns() {
        CHECK.about(6, "The last CLASS is gone");
        MovedMembers x = Check.told("A:a", "B<A:b-c(uu)v");
        CHECK.row("with it", new long[] {x.count(8), x.count(7), x.moves(0), x.trace(1, 2, 0)}, 2, 1, 3, 3);
        CHECK.row("without it", new long[] {x.drop(), x.count(8), x.count(7), x.moves(0), x.trace(1, 2, 0), x.event(1, 2, 0, 0)},
            1, 0, 0, 0, Check.UNKNOWN, Check.UNKNOWN);
        CHECK.row("another one", new long[] {Check.tell(x, "B:c(b)"), x.trace(1, 2, 0), x.count(8), x.moves(0)}, 1, 2, 1, 0);
        CHECK.row("another one at once", new long[] {x.drop(), Check.tell(x, "B<A:c(xyz)"), x.trace(1, 2, 0), x.count(8), x.moves(0)},
            1, 1, 4, 3, 1);
    }

    private static void dropOfBodiesThatLieElsewhere() {
        CHECK.about(6, "STATE, too, if there are such that came with it.");
        MovedMembers a = Check.told("A:", "B:", "C<B:a");
        CHECK.row("the body of the first method", new long[] {a.move(2, 0, true), a.drop()}, 1, Check.STATE);
        MovedMembers f = Check.told("A:", "B<A:f");
        CHECK.row("the body of the last method", new long[] {f.move(1, 5, true), f.drop()}, 1, Check.STATE);
        MovedMembers x = Check.told("A:", "B<A:a", "C<A:bc");
        CHECK.due("the body told ahead of them up", x.move(1, 0, true), 1);
        CHECK.due("it did not come with C", x.drop(), 2);
        CHECK.due("C again", Check.tell(x, "C<A:bc"), 2);
        CHECK.due("the first that came with it up", x.move(2, 1, true), 1);
        CHECK.refused(x, "the first lies in A", x::drop, Check.STATE);
        CHECK.row("what is kept stays", new long[] {x.count(3), x.undo(), x.has(2, 1)}, 1, 0, 1);
        CHECK.due("the last that came with it up", x.move(2, 2, true), 1);
        CHECK.refused(x, "the last lies in A", x::drop, Check.STATE);
        CHECK.due("down again to both", x.why(0, 2, false), 4);
        x.hollow(0, true);
        CHECK.row("down again to both, A abstract", new long[] {x.move(0, 2, false), x.has(1, 2), x.has(2, 2)}, 1, 2, 2);
        CHECK.refused(x, "it lies in B, too", x::drop, Check.STATE);
    }

    private static void dropOfSlotsThatLieElsewhere() {
        CHECK.about(6, "STATE, too, if there are such that came with it.");
        MovedMembers x = Check.told("A:", "B<A:z", "C<A:u");
        CHECK.row("the slot told ahead of it up", new long[] {x.move(1, 11, true), x.has(0, 11), x.drop()}, 1, 23, 2);
        x = Check.told("A:", "B<A:", "C<A:u");
        CHECK.row("the least slot up", new long[] {x.move(2, 6, true), x.has(0, 6), x.drop()}, 1, 30, Check.STATE);
        x = Check.told("A:", "B<A:", "C<B:z");
        CHECK.row("the greatest slot up", new long[] {x.move(2, 11, true), x.has(1, 11), x.drop()}, 1, 35, Check.STATE);
        CHECK.row("further up", new long[] {x.move(1, 11, true), x.drop()}, 2, Check.STATE);
        CHECK.row("both undone", new long[] {x.undo(), x.undo(), x.drop()}, 1, 0, 2);
        CHECK.due("a slot's number is no body's", Check.told("A:uz", "B:a").drop(), 1);
    }

    private static void dropOfWhatLiesInIt() {
        CHECK.about(6, "BODIES and SLOTS that lie in other CLASSES by MOVES stay there");
        MovedMembers x = Check.told("A:au", "B<A:", "C<A:");
        x.hollow(0, true);
        CHECK.row("down to both", new long[] {x.move(0, 0, false), x.move(0, 6, false)}, 1, 2);
        CHECK.row("C goes", new long[] {x.drop(), x.has(1, 0), x.has(1, 6), x.has(0, 0), x.count(2)}, 2, 0, 6, -1, 1);
        CHECK.row("B goes, A's body is in no class", new long[] {x.drop(), x.has(0, 0), x.has(0, 6), x.count(2), x.body(0, 0),
            x.dead(0)}, 1, -1, -1, 1, 0, 1);
        CHECK.row("A goes with its body", new long[] {x.drop(), x.count(2), x.body(0, 0)}, 0, 0, Check.UNKNOWN);
    }

    private static void hollow() {
        CHECK.about(7, "UNKNOWN.");
        MovedMembers x = Check.told("A:u", "B<A:");
        x.move(0, 6, false);
        for (int odd : new int[] {-1, 2, 8, Integer.MIN_VALUE, Integer.MAX_VALUE}) {
            CHECK.refused(x, "hollow(" + odd + ")", () -> x.hollow(odd, true), Check.UNKNOWN);
        }
        CHECK.row("what is kept stays", new long[] {x.undo(), x.has(0, 6)}, 0, 6);
        CHECK.about(7, "A CLASS is ABSTRACT, or not: whether it was (1, 0).");
        CHECK.row("the first", new long[] {x.hollow(0, false), x.hollow(0, true), x.hollow(0, true), x.hollow(0, false),
            x.hollow(0, false)}, 0, 0, 1, 1, 0);
        CHECK.row("the last", new long[] {x.hollow(1, true), x.of(0, 1), x.of(1, 1), x.hollow(1, false), x.of(1, 1)},
            0, 0, 1, 1, 0);
        CHECK.about(7, "there are no OBJECTS of them; there are OBJECTS of all others");
        MovedMembers y = Check.told("A:a(u)", "B<A:b");
        CHECK.row("objects of both", new long[] {y.count(8), y.count(7), y.moves(2)}, 2, 0, 1);
        CHECK.row("of B alone", new long[] {y.hollow(0, true), y.count(8), y.count(7), y.moves(2), y.moves(1)}, 0, 1, 0, 0, 1);
        CHECK.row("of none", new long[] {y.hollow(1, true), y.count(8), y.count(7), y.moves(2)}, 0, 0, 2, 0);
        CHECK.row("of a third", new long[] {y.hollow(0, true), Check.tell(y, "C<B:"), y.count(8), y.count(7)}, 1, 2, 1, 0);
        MovedMembers eight = Check.told(EIGHT);
        CHECK.row("the eighth", new long[] {eight.hollow(7, true), eight.hollow(8, true), eight.of(7, 1)},
            0, Check.UNKNOWN, 1);
    }
}
