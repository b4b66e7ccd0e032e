import java.util.Random;

/**
 * All promises: runs of calls drawn from fixed seeds, each answer compared
 * with the one of the plain model.
 */
public final class ModelTests {
    private static final Check CHECK = new Check("ModelTests");
    private static final int RUNS = 700;
    private static final int MOST_CALLS = 512;
    private static final int[] ODD = {-1, -2, 6, 7, 8, 9, 12, 13, 16, 20, 60, 64, Integer.MIN_VALUE, Integer.MAX_VALUE};
    private static final String LETTERS = "ABCDEFGHI<:-()^abcdefuvwxyz";

    private final Random random;
    private final int run;
    private final int style;
    private final MovedMembers x = new MovedMembers();
    private final Model model = new Model();
    private int calls = 0;

    private ModelTests(int run) {
        this.run = run;
        this.style = run % 5;
        this.random = new Random(run);
    }

    public static void main(String[] args) {
        long[] reached = new long[6];
        for (int run = 0; run < RUNS; run++) {
            ModelTests one = new ModelTests(run);
            one.play();
            reached[0] += one.model.count(5);
            reached[1] += one.model.count(6);
            reached[2] += one.model.count(1) == 8 ? 1 : 0;
            reached[3] += one.model.count(2) > 34 ? 1 : 0;
            reached[4] += one.model.count(7) > 0 ? 1 : 0;
            reached[5] += one.model.count(8) > 0 ? 1 : 0;
        }
        for (int n = 0; n < reached.length; n++) {
            CHECK.holds("the runs reach what they are for, " + n, reached[n] >= 5);
        }
        CHECK.end();
    }

    private void due(String call, long got, long want) {
        calls++;
        CHECK.due("run " + run + ", call " + calls + ": " + call, got, want);
    }

    private boolean chance(int percent) {
        return random.nextInt(100) < percent;
    }

    /** Mostly a number that names something, at times one that does not. */
    private int number(int end) {
        return chance(4) || end <= 0 ? ODD[random.nextInt(ODD.length)] : random.nextInt(end);
    }

    private void play() {
        int first = 1 + random.nextInt(7);
        for (int n = 0; n < first && calls < MOST_CALLS - 60; n++) {
            tell(soundText());
        }
        while (calls < MOST_CALLS - 45) {
            act(random.nextInt(100));
        }
        due("digest()", x.digest(), model.digest());
    }

    private void act(int kind) {
        if (kind < 3) {
            tell(chance(70) ? soundText() : brokenText());
        } else if (kind < 5) {
            due("drop()", x.drop(), model.drop());
        } else if (kind < 9) {
            int type = number(model.count(1));
            boolean is = random.nextBoolean();
            due("hollow(" + type + ", " + is + ")", x.hollow(type, is), model.hollow(type, is));
        } else if (kind < 50) {
            moveSomething();
        } else if (kind < 58) {
            due("undo()", x.undo(), model.undo());
        } else if (kind < 60) {
            due("digest()", x.digest(), model.digest());
        } else if (kind < 75) {
            find();
        } else {
            ask();
        }
    }

    private void moveSomething() {
        int type = number(model.count(1));
        int member = number(12);
        for (int n = 0; n < 8 && model.has(type, member) == MovedMembers.NONE; n++) {
            member = number(12);
        }
        boolean up = random.nextBoolean();
        String tail = "(" + type + ", " + member + ", " + up + ")";
        due("why" + tail, x.why(type, member, up), model.why(type, member, up));
        if (chance(50)) {
            due("where" + tail, x.where(type, member, up), model.where(type, member, up));
        }
        due("move" + tail, x.move(type, member, up), model.move(type, member, up));
    }

    private void find() {
        int type = number(model.count(1));
        int member = number(12);
        int method = number(6);
        int what = number(8);
        int few = number(2);
        int event = number(chance(50) ? 5 : 60);
        int body = number(model.count(2));
        int place = chance(70) ? 10 + random.nextInt(6) : number(20);
        String tail = "(" + type + ", " + method + ", " + few + ")";
        switch (random.nextInt(6)) {
            case 0 -> due("of(" + type + ", " + what + ")", x.of(type, what), model.of(type, what));
            case 1 -> due("has(" + type + ", " + member + ")", x.has(type, member), model.has(type, member));
            case 2 -> due("answer" + tail, x.answer(type, method, few), model.answer(type, method, few));
            case 3 -> due("trace" + tail, x.trace(type, method, few), model.trace(type, method, few));
            case 4 -> due("event(" + type + ", " + method + ", " + event + ", " + few + ")",
                x.event(type, method, event, few), model.event(type, method, event, few));
            default -> due("body(" + body + ", " + place + ")", x.body(body, place), model.body(body, place));
        }
    }

    private void ask() {
        int what = number(9);
        int few = number(3);
        int body = number(model.count(2));
        int contract = number(model.count(4));
        int types = chance(90) ? random.nextInt(1 << model.count(1)) : number(300);
        int methods = number(64);
        switch (random.nextInt(6)) {
            case 0 -> due("moves(" + few + ")", x.moves(few), model.moves(few));
            case 1 -> due("contract(" + methods + ")", x.contract(methods), model.contract(methods));
            case 2 -> due("fit(" + contract + ", " + few + ")", x.fit(contract, few), model.fit(contract, few));
            case 3 -> due("common(" + types + ")", x.common(types), model.common(types));
            case 4 -> due("dead(" + body + ")", x.dead(body), model.dead(body));
            default -> due("count(" + what + ")", x.count(what), model.count(what));
        }
    }

    private void tell(String text) {
        if (calls + text.length() + 3 > MOST_CALLS) {
            return;
        }
        if (model.count(0) > 0 && chance(80)) {
            due("blank()", x.blank(), model.blank());
        }
        for (char letter : text.toCharArray()) {
            due("letter(" + letter + ")", x.letter(letter), model.letter(letter));
        }
        due("fault()", x.fault(), model.fault());
        due("type()", x.type(), model.type());
    }

    /** Few letters make many classes that share them, and so moves that meet. */
    private String soundText() {
        int types = model.count(1);
        StringBuilder text = new StringBuilder().append((char) ('A' + types));
        if (types > 0 && chance(85)) {
            text.append('<').append((char) ('A' + random.nextInt(types)));
        }
        text.append(':');
        int methods = style == 4 ? 6 : 2 + random.nextInt(5);
        int fields = style == 4 ? 1 : 1 + random.nextInt(3);
        int keep = style == 4 ? 90 : style == 3 ? 70 : 40;
        for (int method = 0; method < methods; method++) {
            if (chance(keep)) {
                addMethod(text, (char) ('a' + method), methods, fields);
            }
        }
        for (int field = 0; field < fields; field++) {
            if (chance(50)) {
                text.append((char) ('u' + field));
            }
        }
        return text.length() > 40 ? text.substring(0, 40) : text.toString();
    }

    private void addMethod(StringBuilder text, char letter, int methods, int fields) {
        text.append(letter);
        if (chance(25)) {
            text.append('-');
        }
        int items = style == 3 ? 3 + random.nextInt(4) : random.nextInt(style == 4 ? 2 : 4);
        if (items == 0) {
            return;
        }
        text.append('(');
        for (int n = 0; n < items; n++) {
            if (chance(30)) {
                text.append((char) ('u' + random.nextInt(fields)));
            } else {
                text.append(chance(35) ? "^" : "").append((char) ('a' + random.nextInt(methods)));
            }
        }
        text.append(')');
    }

    private String brokenText() {
        StringBuilder text = new StringBuilder(soundText());
        int edits = 1 + random.nextInt(2);
        for (int n = 0; n < edits && text.length() > 0; n++) {
            int at = random.nextInt(text.length());
            char letter = LETTERS.charAt(random.nextInt(LETTERS.length()));
            switch (random.nextInt(3)) {
                case 0 -> text.setCharAt(at, letter);
                case 1 -> text.insert(at, letter);
                default -> text.deleteCharAt(at);
            }
        }
        return text.toString();
    }
}
