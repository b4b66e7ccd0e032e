/**
 * Members moved along a tree of classes: told as texts, traced as they run,
 * pulled up and pushed down only where no trace of any object changes.
 */
public final class MovedMembers {
    public static final int NONE = -1, UNKNOWN = -1001, OUTSIDE = -1002, STATE = -1003, FULL = -1004;

    private static final int MOST_TYPES = 8;
    private static final int METHODS = 6;
    private static final int MEMBERS = 12;
    private static final int MOST_BODIES = 40;
    private static final int MOST_ITEMS = 6;
    private static final int MOST_LETTERS = 40;
    private static final int MOST_EVENTS = 60;
    private static final int MOST_KEPT = 20;
    private static final int MOST_CONTRACTS = 6;

    private static final int FIRST_CODE = 32;
    private static final int LAST_CODE = 126;
    private static final int ASK = 20;
    private static final int FIRST_ITEM = 10;

    private static final int RUN = 0;
    private static final int ROUND = 1;
    private static final int USED = 2;
    private static final int MISSING = 3;
    private static final int KINDS = 4;

    private static final int CAN_BE = 0;
    private static final int NOT_THERE = 1;
    private static final int NO_WAY = 2;
    private static final int IN_THE_WAY = 3;
    private static final int OTHER_TRACE = 4;

    private static final long DIGEST_START = 1663L;

    private final Page page;
    private final Reader reader;
    private final Tree tree;
    private final Survey survey;
    private final Mover mover;
    private final int[] contracts;
    private int contractCount;

    public MovedMembers() {
        page = new Page();
        reader = new Reader();
        tree = new Tree();
        Tracer tracer = new Tracer(tree);
        survey = new Survey(tree, tracer);
        mover = new Mover(tree, tracer, survey);
        contracts = new int[MOST_CONTRACTS];
        contractCount = 0;
    }

    // ---- texts

    public int letter(int code) {
        if (code < FIRST_CODE || code > LAST_CODE) {
            return OUTSIDE;
        }
        return page.append(code) ? page.size : FULL;
    }

    public int blank() {
        int had = page.size;
        page.wipe();
        return had;
    }

    public int fault() {
        return reader.read(page, tree.types);
    }

    public int type() {
        if (reader.read(page, tree.types) < page.size || !reader.isWhole()) {
            return STATE;
        }
        if (!tree.hasRoomFor(reader)) {
            return FULL;
        }
        int number = tree.accept(reader);
        page.wipe();
        mover.forgetKept();
        return number;
    }

    public int drop() {
        if (tree.types == 0 || tree.lastLiesElsewhere()) {
            return STATE;
        }
        tree.removeLast();
        mover.forgetKept();
        return tree.types;
    }

    public int hollow(int type, boolean is) {
        if (!tree.hasType(type)) {
            return UNKNOWN;
        }
        boolean was = tree.isHollow(type);
        tree.makeHollow(type, is);
        mover.forgetKept();
        return was ? 1 : 0;
    }

    // ---- what is found

    public int of(int type, int what) {
        if (!tree.hasType(type)) {
            return UNKNOWN;
        }
        switch (what) {
            case 0:
                return tree.parentOf(type);
            case 1:
                return tree.isHollow(type) ? 1 : 0;
            case 2:
                return tree.heldBits(type, 0, METHODS);
            case 3:
                return tree.hiddenOf(type);
            case 4:
                return tree.heldBits(type, METHODS, MEMBERS);
            case 5:
                return tree.answerBits(type);
            case 6:
                return tree.childBits(type);
            default:
                return OUTSIDE;
        }
    }

    public int has(int type, int member) {
        if (!tree.hasType(type) || !isMember(member)) {
            return UNKNOWN;
        }
        return tree.heldBy(type, member);
    }

    public int answer(int type, int method, int what) {
        if (!tree.hasType(type) || !isMethod(method)) {
            return UNKNOWN;
        }
        if (what < 0 || what > 1) {
            return OUTSIDE;
        }
        int home = tree.nearest(type, method);
        return what == 1 || home == NONE ? home : tree.heldBy(home, method);
    }

    public int body(int body, int what) {
        if (!tree.hasBody(body)) {
            return UNKNOWN;
        }
        if (what == 0) {
            return tree.itemCountOf(body);
        }
        if (what < FIRST_ITEM || what >= FIRST_ITEM + MOST_ITEMS) {
            return OUTSIDE;
        }
        return tree.itemAt(body, what - FIRST_ITEM);
    }

    public int trace(int type, int method, int what) {
        if (!tree.hasType(type) || !isMethod(method)) {
            return UNKNOWN;
        }
        if (what < 0 || what > 1) {
            return OUTSIDE;
        }
        survey.refresh();
        return what == 0 ? survey.sizeOf(type, method) : survey.depthOf(type, method);
    }

    public int event(int type, int method, int event, int what) {
        if (!tree.hasType(type) || !isMethod(method)) {
            return UNKNOWN;
        }
        survey.refresh();
        if (event < 0 || event >= survey.sizeOf(type, method)) {
            return UNKNOWN;
        }
        if (what < 0 || what > 1) {
            return OUTSIDE;
        }
        int told = survey.eventAt(type, method, event);
        return what == 0 ? told % KINDS : told / KINDS;
    }

    // ---- moves

    public int why(int type, int member, boolean up) {
        if (!tree.hasType(type) || !isMember(member)) {
            return UNKNOWN;
        }
        return mover.reason(type, member, up);
    }

    public int where(int type, int member, boolean up) {
        if (!tree.hasType(type) || !isMember(member)) {
            return UNKNOWN;
        }
        mover.reason(type, member, up);
        return mover.place;
    }

    public int move(int type, int member, boolean up) {
        if (!tree.hasType(type) || !isMember(member)) {
            return UNKNOWN;
        }
        if (mover.reason(type, member, up) != CAN_BE) {
            return STATE;
        }
        return mover.keep(type, member, up) ? mover.kept : FULL;
    }

    public int undo() {
        return mover.takeBack() ? mover.kept : STATE;
    }

    public int moves(int what) {
        if (what < 0 || what > 2) {
            return OUTSIDE;
        }
        mover.refresh();
        return what == 0 ? mover.ups : what == 1 ? mover.downs : mover.stopped;
    }

    // ---- contracts, what is dead

    public int contract(int methods) {
        if (methods < 1 || methods >= 1 << METHODS) {
            return OUTSIDE;
        }
        if (contractCount >= MOST_CONTRACTS) {
            return FULL;
        }
        contracts[contractCount] = methods;
        contractCount++;
        return contractCount - 1;
    }

    public int fit(int contract, int what) {
        if (contract < 0 || contract >= contractCount || contract >= MOST_CONTRACTS) {
            return UNKNOWN;
        }
        int methods = contracts[contract];
        switch (what) {
            case 0:
                return methods;
            case 1:
                return typesThatFit(methods);
            case 2:
                return nearestMisfit(methods);
            default:
                return OUTSIDE;
        }
    }

    public int common(int types) {
        if (types < 1 || types >= 1 << tree.types) {
            return OUTSIDE;
        }
        int shared = (1 << METHODS) - 1;
        for (int type = 0; type < tree.types; type++) {
            if ((types >> type & 1) != 0) {
                shared &= tree.answerBits(type);
            }
        }
        return shared;
    }

    public int dead(int body) {
        if (!tree.hasBody(body)) {
            return UNKNOWN;
        }
        survey.refresh();
        return survey.isReached(body) ? 0 : 1;
    }

    public int count(int what) {
        switch (what) {
            case 0:
                return page.size;
            case 1:
                return tree.types;
            case 2:
                return tree.bodies;
            case 3:
                return mover.kept;
            case 4:
                return contractCount;
            case 5:
                return mover.done;
            case 6:
                return mover.undone;
            case 7:
                survey.refresh();
                return tree.bodies - survey.reachedCount();
            case 8:
                survey.refresh();
                return survey.missing;
            default:
                return OUTSIDE;
        }
    }

    public long digest() {
        // Brought up to date here, not in the helpers, so that calls do not nest deep.
        survey.refresh();
        mover.refresh();
        long h = DIGEST_START;
        for (int type = 0; type < tree.types; type++) {
            h = withType(h, type);
        }
        for (int body = 0; body < tree.bodies; body++) {
            h = withBody(h, body);
        }
        h = with(with(with(h, mover.ups), mover.downs), mover.stopped);
        for (int contract = 0; contract < contractCount; contract++) {
            for (int what = 0; what <= 2; what++) {
                h = with(h, fit(contract, what));
            }
        }
        for (int place = 0; place < page.size; place++) {
            h = with(h, page.codeAt(place));
        }
        for (int what = 0; what <= 8; what++) {
            h = with(h, count(what));
        }
        return h;
    }

    private long withType(long start, int type) {
        long h = start;
        for (int what = 0; what <= 6; what++) {
            h = with(h, of(type, what));
        }
        for (int member = 0; member < MEMBERS; member++) {
            h = with(h, has(type, member));
        }
        for (int method = 0; method < METHODS; method++) {
            h = withMethod(h, type, method);
        }
        return h;
    }

    private long withMethod(long start, int type, int method) {
        long h = with(start, answer(type, method, 0));
        h = with(h, answer(type, method, 1));
        int size = survey.sizeOf(type, method);
        h = with(with(h, size), survey.depthOf(type, method));
        for (int place = 0; place < size && place < MOST_EVENTS; place++) {
            int told = survey.eventAt(type, method, place);
            h = with(with(h, told % KINDS), told / KINDS);
        }
        return h;
    }

    private long withBody(long start, int body) {
        long h = with(start, body(body, 0));
        for (int place = 0; place < MOST_ITEMS; place++) {
            h = with(h, body(body, FIRST_ITEM + place));
        }
        return with(h, survey.isReached(body) ? 0 : 1);
    }

    private static long with(long h, long number) {
        return 31L * h + number;
    }

    private int typesThatFit(int methods) {
        int bits = 0;
        for (int type = 0; type < tree.types; type++) {
            if ((methods & ~tree.answerBits(type)) == 0) {
                bits |= 1 << type;
            }
        }
        return bits;
    }

    private int nearestMisfit(int methods) {
        int nearest = NONE;
        int fewest = METHODS + 1;
        for (int type = 0; type < tree.types; type++) {
            int lacks = Integer.bitCount(methods & ~tree.answerBits(type));
            if (lacks > 0 && lacks < fewest) {
                nearest = type;
                fewest = lacks;
            }
        }
        return nearest;
    }

    private static boolean isMember(int member) {
        return member >= 0 && member < MEMBERS;
    }

    private static boolean isMethod(int method) {
        return method >= 0 && method < METHODS;
    }

    /** The letters that wait to be read. */
    private static final class Page {
        private final int[] codes = new int[MOST_LETTERS];
        private int size = 0;

        boolean append(int code) {
            if (size >= MOST_LETTERS) {
                return false;
            }
            codes[size] = code;
            size++;
            return true;
        }

        void wipe() {
            size = 0;
        }

        int codeAt(int place) {
            return place >= 0 && place < size && place < MOST_LETTERS ? codes[place] : NONE;
        }
    }

    /**
     * Reads a page letter by letter as the class that comes next, and holds
     * what it told. A letter is taken only if some class goes on so, which is
     * why the first one that is not taken is the fault.
     */
    private static final class Reader {
        private static final int AT_NAME = 0;
        private static final int BEHIND_NAME = 1;
        private static final int AT_PARENT = 2;
        private static final int AT_COLON = 3;
        private static final int AT_MEMBER = 4;
        private static final int BEHIND_METHOD = 5;
        private static final int BEHIND_DASH = 6;
        private static final int AT_ITEM = 7;
        private static final int BEHIND_ASK = 8;

        private final int[] told = new int[MEMBERS];
        private final int[] itemCounts = new int[MEMBERS];
        private final int[] items = new int[MEMBERS * MOST_ITEMS];
        private int state;
        private int typesAhead;
        private int parent;
        private int toldCount;
        private int seenBits;
        private int hiddenBits;

        int read(Page page, int types) {
            start(types);
            for (int place = 0; place < page.size; place++) {
                if (!take(page.codeAt(place))) {
                    return place;
                }
            }
            return page.size;
        }

        boolean isWhole() {
            return state == AT_MEMBER || state == BEHIND_METHOD || state == BEHIND_DASH;
        }

        int methodCount() {
            return Integer.bitCount(seenBits & (1 << METHODS) - 1);
        }

        int memberAt(int place) {
            return place >= 0 && place < toldCount && place < MEMBERS ? told[place] : NONE;
        }

        int itemCountOf(int member) {
            return member >= 0 && member < MEMBERS ? itemCounts[member] : 0;
        }

        int itemAt(int member, int place) {
            return isMember(member) && place >= 0 && place < MOST_ITEMS
                    ? items[member * MOST_ITEMS + place] : NONE;
        }

        private void start(int types) {
            state = AT_NAME;
            typesAhead = types;
            parent = NONE;
            toldCount = 0;
            seenBits = 0;
            hiddenBits = 0;
        }

        private boolean take(int code) {
            switch (state) {
                case AT_NAME:
                    return goOn(code == 'A' + typesAhead, BEHIND_NAME);
                case BEHIND_NAME:
                    return code == ':' ? goOn(true, AT_MEMBER) : goOn(code == '<' && typesAhead > 0, AT_PARENT);
                case AT_PARENT:
                    parent = code - 'A';
                    return goOn(parent >= 0 && parent < typesAhead, AT_COLON);
                case AT_COLON:
                    return goOn(code == ':', AT_MEMBER);
                case AT_MEMBER:
                    return takeMember(code);
                case BEHIND_METHOD:
                    return code == '-' ? takeDash() : takeBehindDash(code);
                case BEHIND_DASH:
                    return takeBehindDash(code);
                case AT_ITEM:
                    return takeItem(code);
                default:
                    return takeAsked(code);
            }
        }

        private boolean goOn(boolean taken, int next) {
            if (taken) {
                state = next;
            }
            return taken;
        }

        private boolean takeMember(int code) {
            int member = memberOf(code);
            if (!isMember(member) || (seenBits >> member & 1) != 0 || toldCount >= MEMBERS) {
                return false;
            }
            told[toldCount] = member;
            toldCount++;
            seenBits |= 1 << member;
            itemCounts[member] = 0;
            return goOn(true, isMethod(member) ? BEHIND_METHOD : AT_MEMBER);
        }

        private boolean takeDash() {
            hiddenBits |= 1 << memberAt(toldCount - 1);
            return goOn(true, BEHIND_DASH);
        }

        private boolean takeBehindDash(int code) {
            return code == '(' ? goOn(true, AT_ITEM) : takeMember(code);
        }

        private boolean takeItem(int code) {
            int held = itemCountOf(memberAt(toldCount - 1));
            if (code == ')') {
                return goOn(held > 0, AT_MEMBER);
            }
            if (held >= MOST_ITEMS) {
                return false;
            }
            if (code == '^') {
                return goOn(true, BEHIND_ASK);
            }
            int member = memberOf(code);
            return isMember(member) && addItem(member);
        }

        private boolean takeAsked(int code) {
            int member = memberOf(code);
            return isMethod(member) && addItem(ASK + member);
        }

        private boolean addItem(int item) {
            int member = memberAt(toldCount - 1);
            if (!isMember(member) || itemCounts[member] >= MOST_ITEMS) {
                return false;
            }
            items[member * MOST_ITEMS + itemCounts[member]] = item;
            itemCounts[member]++;
            return goOn(true, AT_ITEM);
        }

        private static int memberOf(int code) {
            if (code >= 'a' && code <= 'f') {
                return code - 'a';
            }
            return code >= 'u' && code <= 'z' ? METHODS + code - 'u' : NONE;
        }
    }

    /**
     * The classes, what each has, and the bodies. Every lasting change makes
     * the version another one, so that what was worked out is known to be old.
     */
    private static final class Tree {
        private final int[] parents = new int[MOST_TYPES];
        private final boolean[] hollows = new boolean[MOST_TYPES];
        private final int[] held = new int[MOST_TYPES * MEMBERS];
        private final int[] hiddenBits = new int[MOST_TYPES];
        private final int[] firstBodies = new int[MOST_TYPES];
        private final int[] itemCounts = new int[MOST_BODIES];
        private final int[] items = new int[MOST_BODIES * MOST_ITEMS];
        private int types = 0;
        private int bodies = 0;
        private int version = 0;

        boolean hasType(int type) {
            return type >= 0 && type < types && type < MOST_TYPES;
        }

        boolean hasBody(int body) {
            return body >= 0 && body < bodies && body < MOST_BODIES;
        }

        // What a trace asks for over and over tests its own indices: traces nest deep enough.

        int parentOf(int type) {
            return type >= 0 && type < types && type < MOST_TYPES ? parents[type] : NONE;
        }

        boolean hides(int type, int member) {
            return type >= 0 && type < types && type < MOST_TYPES && (hiddenBits[type] >> member & 1) != 0;
        }

        int heldBy(int type, int member) {
            return type >= 0 && type < types && type < MOST_TYPES && member >= 0 && member < MEMBERS
                    ? held[type * MEMBERS + member] : NONE;
        }

        int itemAt(int body, int place) {
            return body >= 0 && body < bodies && body < MOST_BODIES
                    && place >= 0 && place < itemCounts[body] && place < MOST_ITEMS
                    ? items[body * MOST_ITEMS + place] : NONE;
        }

        boolean isHollow(int type) {
            return hasType(type) && hollows[type];
        }

        void makeHollow(int type, boolean is) {
            if (hasType(type)) {
                hollows[type] = is;
                version++;
            }
        }

        int hiddenOf(int type) {
            return hasType(type) ? hiddenBits[type] : 0;
        }

        void put(int type, int member, int what, boolean hidden) {
            if (type < 0 || type >= MOST_TYPES || !isMember(member)) {
                return;
            }
            held[type * MEMBERS + member] = what;
            int bit = 1 << member;
            hiddenBits[type] = hidden ? hiddenBits[type] | bit : hiddenBits[type] & ~bit;
        }

        /** The bits of the members from one number to ahead of another, the first one's bit being 1. */
        int heldBits(int type, int from, int end) {
            int bits = 0;
            for (int member = from; member < end; member++) {
                if (heldBy(type, member) != NONE) {
                    bits |= 1 << member - from;
                }
            }
            return bits;
        }

        int childBits(int type) {
            int bits = 0;
            for (int child = type + 1; child < types; child++) {
                if (parentOf(child) == type) {
                    bits |= 1 << child;
                }
            }
            return bits;
        }

        /**
         * The nearest class, it itself first, that has a member, not hidden: by a method's body there a class
         * answers it; and as no field is ever hidden, a field's slot there is the one that is used.
         */
        int nearest(int type, int member) {
            if (member < 0 || member >= MEMBERS) {
                return NONE;
            }
            int at = type;
            for (int level = 0; level < MOST_TYPES && at >= 0 && at < types && at < MOST_TYPES; level++) {
                if (held[at * MEMBERS + member] != NONE && (hiddenBits[at] >> member & 1) == 0) {
                    return at;
                }
                at = parents[at];
            }
            return NONE;
        }

        int answerBits(int type) {
            int bits = 0;
            for (int method = 0; method < METHODS; method++) {
                if (nearest(type, method) != NONE) {
                    bits |= 1 << method;
                }
            }
            return bits;
        }

        int itemCountOf(int body) {
            return hasBody(body) ? itemCounts[body] : 0;
        }

        boolean hasRoomFor(Reader told) {
            return types < MOST_TYPES && bodies + told.methodCount() <= MOST_BODIES;
        }

        int accept(Reader told) {
            int type = types;
            if (type < 0 || type >= MOST_TYPES) {
                return FULL;
            }
            types++;
            parents[type] = told.parent;
            hollows[type] = false;
            firstBodies[type] = bodies;
            for (int member = 0; member < MEMBERS; member++) {
                put(type, member, NONE, false);
            }
            for (int place = 0; place < told.toldCount; place++) {
                int member = told.memberAt(place);
                boolean hidden = (told.hiddenBits >> member & 1) != 0;
                put(type, member, isMethod(member) ? newBody(told, member) : MEMBERS * type + member, hidden);
            }
            version++;
            return type;
        }

        private int newBody(Reader told, int member) {
            int body = bodies;
            if (body < 0 || body >= MOST_BODIES) {
                return NONE;
            }
            bodies++;
            itemCounts[body] = told.itemCountOf(member);
            for (int place = 0; place < MOST_ITEMS; place++) {
                items[body * MOST_ITEMS + place] = told.itemAt(member, place);
            }
            return body;
        }

        /** Whether a body or a slot that came with the last class lies in another one. */
        boolean lastLiesElsewhere() {
            int last = types - 1;
            if (!hasType(last)) {
                return false;
            }
            for (int type = 0; type < last; type++) {
                for (int member = 0; member < MEMBERS; member++) {
                    int from = isMethod(member) ? firstBodies[last] : MEMBERS * last;
                    if (heldBy(type, member) >= from) {
                        return true;
                    }
                }
            }
            return false;
        }

        void removeLast() {
            int last = types - 1;
            if (hasType(last)) {
                bodies = firstBodies[last];
                types = last;
                version++;
            }
        }
    }

    /** Runs one method of one class and holds its events, each as KINDS times its number, and its kind. */
    private static final class Tracer {
        private final Tree tree;
        private final int[] events = new int[MOST_EVENTS];
        private final int[] openBodies = new int[MOST_BODIES];
        private final int[] openHomes = new int[MOST_BODIES];
        private final int[] openPlaces = new int[MOST_BODIES];
        private long openBits;
        private int open;
        private int size;
        private int deepest;

        Tracer(Tree tree) {
            this.tree = tree;
        }

        /** The size is NONE then, and the depth too, if the class does not answer the method. */
        void run(int type, int method) {
            open = 0;
            openBits = 0L;
            size = NONE;
            deepest = NONE;
            int home = tree.nearest(type, method);
            if (home == NONE) {
                return;
            }
            size = 0;
            meet(home, method);
            // Each step adds an event or ends a body that an event began.
            for (int step = 0; step < 2 * MOST_EVENTS && open > 0 && size < MOST_EVENTS; step++) {
                int item = nextItem();
                if (item == NONE) {
                    leave();
                } else if (item >= METHODS && item < MEMBERS) {
                    use(item);
                } else {
                    meet(homeFor(type, item), item % ASK);
                }
            }
        }

        private int nextItem() {
            int top = open - 1;
            if (top < 0 || top >= MOST_BODIES) {
                return NONE;
            }
            int item = tree.itemAt(openBodies[top], openPlaces[top]);
            openPlaces[top]++;
            return item;
        }

        private int openHome() {
            return open > 0 && open <= MOST_BODIES ? openHomes[open - 1] : NONE;
        }

        /** The class in which the body lies that a call or an ask comes to. */
        private int homeFor(int type, int item) {
            int home = openHome();
            if (item >= ASK) {
                return tree.nearest(tree.parentOf(home), item - ASK);
            }
            return tree.hides(home, item) ? home : tree.nearest(type, item);
        }

        private void use(int field) {
            int slot = tree.heldBy(tree.nearest(openHome(), field), field);
            note(slot == NONE ? MISSING : USED, slot == NONE ? field : slot);
        }

        private void meet(int home, int method) {
            int body = tree.heldBy(home, method);
            if (body == NONE) {
                note(MISSING, method);
            } else if ((openBits >> body & 1L) != 0L) {
                note(ROUND, body);
            } else {
                note(RUN, body);
                enter(body, home);
            }
        }

        private void enter(int body, int home) {
            if (open < 0 || open >= MOST_BODIES) {
                return;
            }
            openBodies[open] = body;
            openHomes[open] = home;
            openPlaces[open] = 0;
            openBits |= 1L << body;
            open++;
            if (open > deepest) {
                deepest = open;
            }
        }

        private void leave() {
            if (open > 0 && open <= MOST_BODIES) {
                open--;
                openBits &= ~(1L << openBodies[open]);
            }
        }

        private void note(int kind, int number) {
            if (size >= 0 && size < MOST_EVENTS) {
                events[size] = KINDS * number + kind;
                size++;
            }
        }

        int eventAt(int place) {
            return place >= 0 && place < size && place < MOST_EVENTS ? events[place] : NONE;
        }
    }

    /** All traces as they are now, and what they tell together. */
    private static final class Survey {
        private final Tree tree;
        private final Tracer tracer;
        private final int[] events = new int[MOST_TYPES * METHODS * MOST_EVENTS];
        private final int[] sizes = new int[MOST_TYPES * METHODS];
        private final int[] depths = new int[MOST_TYPES * METHODS];
        private long reachedBits;
        private int missing;
        private int version = NONE;

        Survey(Tree tree, Tracer tracer) {
            this.tree = tree;
            this.tracer = tracer;
        }

        void refresh() {
            if (version == tree.version) {
                return;
            }
            version = tree.version;
            reachedBits = 0L;
            missing = 0;
            for (int type = 0; type < tree.types; type++) {
                for (int method = 0; method < METHODS; method++) {
                    tracer.run(type, method);
                    store(type, method);
                    if (!tree.isHollow(type)) {
                        addUp();
                    }
                }
            }
        }

        private void store(int type, int method) {
            int row = rowOf(type, method);
            if (row == NONE) {
                return;
            }
            sizes[row] = tracer.size;
            depths[row] = tracer.deepest;
            for (int place = 0; place < tracer.size && place < MOST_EVENTS; place++) {
                events[row * MOST_EVENTS + place] = tracer.eventAt(place);
            }
        }

        private void addUp() {
            for (int place = 0; place < tracer.size; place++) {
                int told = tracer.eventAt(place);
                if (told % KINDS == RUN) {
                    reachedBits |= 1L << told / KINDS;
                } else if (told % KINDS == MISSING) {
                    missing++;
                }
            }
        }

        private static int rowOf(int type, int method) {
            return type >= 0 && type < MOST_TYPES && method >= 0 && method < METHODS
                    ? type * METHODS + method : NONE;
        }

        int sizeOf(int type, int method) {
            int row = rowOf(type, method);
            return row == NONE ? NONE : sizes[row];
        }

        int depthOf(int type, int method) {
            int row = rowOf(type, method);
            return row == NONE ? NONE : depths[row];
        }

        int eventAt(int type, int method, int place) {
            int row = rowOf(type, method);
            return row == NONE || place < 0 || place >= MOST_EVENTS ? NONE : events[row * MOST_EVENTS + place];
        }

        boolean isReached(int body) {
            return body >= 0 && body < MOST_BODIES && (reachedBits >> body & 1L) != 0L;
        }

        int reachedCount() {
            return Long.bitCount(reachedBits);
        }

        /** Whether the trace that the tracer holds is the one that was stored. */
        boolean isAsTraced(int type, int method) {
            if (tracer.size != sizeOf(type, method)) {
                return false;
            }
            for (int place = 0; place < tracer.size; place++) {
                if (tracer.eventAt(place) != eventAt(type, method, place)) {
                    return false;
                }
            }
            return true;
        }
    }

    /**
     * Moves members, tries moves, and undoes them. A move changes one member
     * alone, so a row with that member in every class is all that it takes to
     * undo it; the last row serves the moves that are only tried.
     */
    private static final class Mover {
        private static final int TRIAL = MOST_KEPT;
        private static final int ROWS = MOST_KEPT + 1;

        private final Tree tree;
        private final Tracer tracer;
        private final Survey survey;
        private final int[] savedHeld = new int[ROWS * MOST_TYPES];
        private final int[] savedHidden = new int[ROWS];
        private final int[] savedMembers = new int[ROWS];
        private int kept = 0;
        private int done = 0;
        private int undone = 0;
        private int place = NONE;
        private int ups;
        private int downs;
        private int stopped;
        private int version = NONE;

        Mover(Tree tree, Tracer tracer, Survey survey) {
            this.tree = tree;
            this.tracer = tracer;
            this.survey = survey;
        }

        void forgetKept() {
            kept = 0;
        }

        /** Why a move cannot be; the place is then where the first trace changes, or NONE. */
        int reason(int type, int member, boolean up) {
            place = NONE;
            if (tree.heldBy(type, member) == NONE) {
                return NOT_THERE;
            }
            int below = tree.childBits(type);
            if (up ? tree.parentOf(type) == NONE : below == 0) {
                return NO_WAY;
            }
            if (up ? tree.heldBy(tree.parentOf(type), member) != NONE : !someLack(below, member)) {
                return IN_THE_WAY;
            }
            survey.refresh();
            save(TRIAL, member);
            shift(type, member, up);
            place = firstChange();
            restore(TRIAL);
            return place == NONE ? CAN_BE : OTHER_TRACE;
        }

        /** Does a move that can be, and keeps it; false if there is no room to keep it. */
        boolean keep(int type, int member, boolean up) {
            if (kept >= MOST_KEPT) {
                return false;
            }
            save(kept, member);
            shift(type, member, up);
            tree.version++;
            kept++;
            done++;
            return true;
        }

        boolean takeBack() {
            if (kept <= 0) {
                return false;
            }
            kept--;
            restore(kept);
            tree.version++;
            undone++;
            return true;
        }

        void refresh() {
            if (version == tree.version) {
                return;
            }
            version = tree.version;
            ups = 0;
            downs = 0;
            stopped = 0;
            for (int type = 0; type < tree.types; type++) {
                for (int member = 0; member < MEMBERS; member++) {
                    int up = reason(type, member, true);
                    int down = reason(type, member, false);
                    ups += up == CAN_BE ? 1 : 0;
                    downs += down == CAN_BE ? 1 : 0;
                    stopped += (up == OTHER_TRACE ? 1 : 0) + (down == OTHER_TRACE ? 1 : 0);
                }
            }
        }

        private boolean someLack(int types, int member) {
            for (int type = 0; type < tree.types; type++) {
                if ((types >> type & 1) != 0 && tree.heldBy(type, member) == NONE) {
                    return true;
                }
            }
            return false;
        }

        private void shift(int type, int member, boolean up) {
            int what = tree.heldBy(type, member);
            boolean hidden = tree.hides(type, member);
            if (up) {
                shiftUp(tree.parentOf(type), member, what, hidden);
            } else {
                shiftDown(type, member, what, hidden);
            }
        }

        private void shiftUp(int parent, int member, int what, boolean hidden) {
            for (int child = 0; child < tree.types; child++) {
                if (tree.parentOf(child) == parent && tree.heldBy(child, member) == what
                        && tree.hides(child, member) == hidden) {
                    tree.put(child, member, NONE, false);
                }
            }
            tree.put(parent, member, what, hidden);
        }

        private void shiftDown(int type, int member, int what, boolean hidden) {
            for (int child = 0; child < tree.types; child++) {
                if (tree.parentOf(child) == type && tree.heldBy(child, member) == NONE) {
                    tree.put(child, member, what, hidden);
                }
            }
            tree.put(type, member, NONE, false);
        }

        private int firstChange() {
            for (int type = 0; type < tree.types; type++) {
                for (int method = 0; method < METHODS && !tree.isHollow(type); method++) {
                    if (survey.sizeOf(type, method) == NONE) {
                        continue;
                    }
                    tracer.run(type, method);
                    if (!survey.isAsTraced(type, method)) {
                        return METHODS * type + method;
                    }
                }
            }
            return NONE;
        }

        private void save(int row, int member) {
            if (row < 0 || row >= ROWS) {
                return;
            }
            savedMembers[row] = member;
            savedHidden[row] = 0;
            for (int type = 0; type < MOST_TYPES; type++) {
                savedHeld[row * MOST_TYPES + type] = tree.heldBy(type, member);
                if (tree.hides(type, member)) {
                    savedHidden[row] |= 1 << type;
                }
            }
        }

        private void restore(int row) {
            if (row < 0 || row >= ROWS) {
                return;
            }
            for (int type = 0; type < MOST_TYPES; type++) {
                boolean hidden = (savedHidden[row] >> type & 1) != 0;
                tree.put(type, savedMembers[row], savedHeld[row * MOST_TYPES + type], hidden);
            }
        }
    }
}
