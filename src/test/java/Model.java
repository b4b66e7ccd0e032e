import java.util.ArrayDeque;
import java.util.ArrayList;
import java.util.Deque;
import java.util.HashSet;
import java.util.LinkedHashMap;
import java.util.List;
import java.util.Map;
import java.util.Set;
import java.util.TreeMap;
import java.util.regex.Matcher;
import java.util.regex.Pattern;

/**
 * The document once more, written as plainly as the Java library allows and
 * without anything kept that could be worked out, for runs of calls to be
 * compared with.
 */
final class Model {
    private static final int NONE = -1, UNKNOWN = -1001, OUTSIDE = -1002, STATE = -1003, FULL = -1004;
    private static final String METHODS = "abcdef";
    private static final String FIELDS = "uvwxyz";
    private static final String ITEM = "(?:\\^[a-f]|[a-f]|[u-z])";
    private static final Pattern MEMBER = Pattern.compile("([u-z])|([a-f])(-?)(?:\\((" + ITEM + "{1,6})\\))?");
    private static final Pattern ITEMS = Pattern.compile(ITEM);

    private record Held(int number, boolean hidden) { }

    private record Event(int kind, int number) { }

    private record Undo(List<Map<Integer, Held>> members) { }

    private static final class Type {
        int number;
        Type parent;
        boolean hollow;
        int firstBody;
        Map<Integer, Held> members = new TreeMap<>();
    }

    private static final class Run {
        final List<Event> events = new ArrayList<>();
        final List<Integer> open = new ArrayList<>();
        int deepest = 0;
    }

    private final StringBuilder page = new StringBuilder();
    private final List<Type> types = new ArrayList<>();
    private final List<List<Integer>> bodies = new ArrayList<>();
    private final Deque<Undo> kept = new ArrayDeque<>();
    private final List<Integer> contracts = new ArrayList<>();
    private int done = 0;
    private int undone = 0;

    private static int memberOf(char letter) {
        return METHODS.indexOf(letter) >= 0 ? METHODS.indexOf(letter) : 6 + FIELDS.indexOf(letter);
    }

    // ---- texts

    int letter(int code) {
        if (code < 32 || code > 126) return OUTSIDE;
        if (page.length() == 40) return FULL;
        page.append((char) code);
        return page.length();
    }

    int blank() {
        int had = page.length();
        page.setLength(0);
        return had;
    }

    /** The members told by a text that is a class, in order, or null. */
    private List<Matcher> read(String text) {
        char next = (char) ('A' + types.size());
        int colon = text.indexOf(':');
        if (colon < 0) return null;
        String head = text.substring(0, colon);
        boolean sound = head.equals("" + next);
        for (Type type : types) {
            sound |= head.equals(next + "<" + (char) ('A' + type.number));
        }
        if (!sound) return null;
        List<Matcher> told = new ArrayList<>();
        Set<Character> letters = new HashSet<>();
        int at = colon + 1;
        while (at < text.length()) {
            Matcher member = MEMBER.matcher(text).region(at, text.length());
            if (!member.lookingAt() || !letters.add(text.charAt(at))) return null;
            told.add(member);
            at = member.end();
        }
        return told;
    }

    /** Some class begins with the text, if one of these ends makes it one. */
    private boolean isBegun(String text) {
        List<String> ends = new ArrayList<>(List.of("", ":", "A:", (char) ('A' + types.size()) + ":", ")", "a)"));
        for (String end : ends) {
            if (read(text + end) != null) return true;
        }
        return false;
    }

    int fault() {
        for (int size = 1; size <= page.length(); size++) {
            if (!isBegun(page.substring(0, size))) return size - 1;
        }
        return page.length();
    }

    int type() {
        List<Matcher> told = read(page.toString());
        if (told == null) return STATE;
        long methods = told.stream().filter(m -> m.group(2) != null).count();
        if (types.size() == 8 || bodies.size() + methods > 40) return FULL;
        Type type = new Type();
        type.number = types.size();
        type.firstBody = bodies.size();
        if (page.charAt(1) == '<') type.parent = types.get(page.charAt(2) - 'A');
        for (Matcher member : told) {
            if (member.group(1) != null) {
                int field = memberOf(member.group(1).charAt(0));
                type.members.put(field, new Held(12 * type.number + field, false));
                continue;
            }
            List<Integer> items = new ArrayList<>();
            Matcher item = ITEMS.matcher(member.group(4) == null ? "" : member.group(4));
            while (item.find()) {
                String letters = item.group();
                items.add(letters.length() == 2 ? 20 + memberOf(letters.charAt(1)) : memberOf(letters.charAt(0)));
            }
            bodies.add(items);
            type.members.put(memberOf(member.group(2).charAt(0)), new Held(bodies.size() - 1, !member.group(3).isEmpty()));
        }
        types.add(type);
        page.setLength(0);
        kept.clear();
        return type.number;
    }

    int drop() {
        if (types.isEmpty()) return STATE;
        Type last = types.get(types.size() - 1);
        for (Type type : types) {
            if (type == last) continue;
            for (Map.Entry<Integer, Held> entry : type.members.entrySet()) {
                int number = entry.getValue().number;
                if (entry.getKey() < 6 ? number >= last.firstBody : number / 12 == last.number) return STATE;
            }
        }
        types.remove(last);
        while (bodies.size() > last.firstBody) bodies.remove(bodies.size() - 1);
        kept.clear();
        return types.size();
    }

    int hollow(int type, boolean is) {
        if (isNoType(type)) return UNKNOWN;
        int was = types.get(type).hollow ? 1 : 0;
        types.get(type).hollow = is;
        kept.clear();
        return was;
    }

    // ---- what is found

    private boolean isNoType(int type) {
        return type < 0 || type >= types.size();
    }

    private static Type answerer(Type type, int method) {
        if (type == null) return null;
        Held held = type.members.get(method);
        return held != null && !held.hidden ? type : answerer(type.parent, method);
    }

    private static int bits(List<Integer> numbers) {
        int bits = 0;
        for (int number : numbers) bits |= 1 << number;
        return bits;
    }

    private static List<Integer> answered(Type type) {
        List<Integer> methods = new ArrayList<>();
        for (int method = 0; method < 6; method++) {
            if (answerer(type, method) != null) methods.add(method);
        }
        return methods;
    }

    private List<Type> below(Type type) {
        return types.stream().filter(other -> other.parent == type).toList();
    }

    int of(int number, int what) {
        if (isNoType(number)) return UNKNOWN;
        Type type = types.get(number);
        return switch (what) {
            case 0 -> type.parent == null ? NONE : type.parent.number;
            case 1 -> type.hollow ? 1 : 0;
            case 2 -> bits(type.members.keySet().stream().filter(m -> m < 6).toList());
            case 3 -> bits(type.members.keySet().stream().filter(m -> m < 6 && type.members.get(m).hidden).toList());
            case 4 -> bits(type.members.keySet().stream().filter(m -> m >= 6).map(m -> m - 6).toList());
            case 5 -> bits(answered(type));
            case 6 -> bits(below(type).stream().map(t -> t.number).toList());
            default -> OUTSIDE;
        };
    }

    int has(int type, int member) {
        if (isNoType(type) || member < 0 || member > 11) return UNKNOWN;
        Held held = types.get(type).members.get(member);
        return held == null ? NONE : held.number;
    }

    int answer(int type, int method, int what) {
        if (isNoType(type) || method < 0 || method > 5) return UNKNOWN;
        if (what != 0 && what != 1) return OUTSIDE;
        Type home = answerer(types.get(type), method);
        if (home == null) return NONE;
        return what == 0 ? home.members.get(method).number : home.number;
    }

    int body(int body, int what) {
        if (body < 0 || body >= bodies.size()) return UNKNOWN;
        List<Integer> items = bodies.get(body);
        if (what == 0) return items.size();
        if (what < 10 || what > 15) return OUTSIDE;
        return what - 10 < items.size() ? items.get(what - 10) : NONE;
    }

    private void note(Run run, int kind, int number) {
        if (run.events.size() < 60) run.events.add(new Event(kind, number));
    }

    private void runBody(Run run, Type object, Type home, int body) {
        if (run.events.size() >= 60) return;
        note(run, 0, body);
        run.open.add(body);
        run.deepest = Math.max(run.deepest, run.open.size());
        for (int item : bodies.get(body)) {
            int member = item % 20;
            if (member >= 6) {
                Type at = home;
                while (at != null && !at.members.containsKey(member)) at = at.parent;
                note(run, at == null ? 3 : 2, at == null ? member : at.members.get(member).number);
                continue;
            }
            Type found = answerer(item >= 20 ? home.parent : object, member);
            if (item < 20 && home.members.containsKey(member) && home.members.get(member).hidden) found = home;
            if (found == null) {
                note(run, 3, member);
            } else if (run.open.contains(found.members.get(member).number)) {
                note(run, 1, found.members.get(member).number);
            } else {
                runBody(run, object, found, found.members.get(member).number);
            }
        }
        run.open.remove(run.open.size() - 1);
    }

    private Run traced(Type type, int method) {
        Type home = answerer(type, method);
        if (home == null) return null;
        Run run = new Run();
        runBody(run, type, home, home.members.get(method).number);
        return run;
    }

    int trace(int type, int method, int what) {
        if (isNoType(type) || method < 0 || method > 5) return UNKNOWN;
        if (what != 0 && what != 1) return OUTSIDE;
        Run run = traced(types.get(type), method);
        if (run == null) return NONE;
        return what == 0 ? run.events.size() : run.deepest;
    }

    int event(int type, int method, int event, int what) {
        if (isNoType(type) || method < 0 || method > 5) return UNKNOWN;
        Run run = traced(types.get(type), method);
        if (run == null || event < 0 || event >= run.events.size()) return UNKNOWN;
        if (what != 0 && what != 1) return OUTSIDE;
        return what == 0 ? run.events.get(event).kind : run.events.get(event).number;
    }

    // ---- moves

    private Undo copied() {
        List<Map<Integer, Held>> all = new ArrayList<>();
        for (Type type : types) all.add(new TreeMap<>(type.members));
        return new Undo(all);
    }

    private void bringBack(Undo old) {
        for (Type type : types) type.members = new TreeMap<>(old.members.get(type.number));
    }

    private void shift(Type type, int member, boolean up) {
        Held held = type.members.get(member);
        if (up) {
            for (Type other : below(type.parent)) {
                if (held.equals(other.members.get(member))) other.members.remove(member);
            }
            type.parent.members.put(member, held);
        } else {
            for (Type other : below(type)) other.members.putIfAbsent(member, held);
            type.members.remove(member);
        }
    }

    private Map<Integer, List<Event>> tracesOfObjects() {
        Map<Integer, List<Event>> all = new LinkedHashMap<>();
        for (Type type : types) {
            if (type.hollow) continue;
            for (int method : answered(type)) all.put(6 * type.number + method, traced(type, method).events);
        }
        return all;
    }

    /** Why, and behind it where. */
    private int[] reason(Type type, int member, boolean up) {
        if (!type.members.containsKey(member)) return new int[] {1, NONE};
        if (up ? type.parent == null : below(type).isEmpty()) return new int[] {2, NONE};
        boolean blocked = up ? type.parent.members.containsKey(member)
            : below(type).stream().allMatch(t -> t.members.containsKey(member));
        if (blocked) return new int[] {3, NONE};
        Map<Integer, List<Event>> before = tracesOfObjects();
        Undo old = copied();
        shift(type, member, up);
        Map<Integer, List<Event>> behind = tracesOfObjects();
        bringBack(old);
        for (int place : before.keySet()) {
            if (!before.get(place).equals(behind.get(place))) return new int[] {4, place};
        }
        return new int[] {0, NONE};
    }

    private boolean isNoMember(int type, int member) {
        return isNoType(type) || member < 0 || member > 11;
    }

    int why(int type, int member, boolean up) {
        return isNoMember(type, member) ? UNKNOWN : reason(types.get(type), member, up)[0];
    }

    int where(int type, int member, boolean up) {
        return isNoMember(type, member) ? UNKNOWN : reason(types.get(type), member, up)[1];
    }

    int move(int type, int member, boolean up) {
        if (isNoMember(type, member)) return UNKNOWN;
        if (why(type, member, up) != 0) return STATE;
        if (kept.size() == 20) return FULL;
        kept.push(copied());
        shift(types.get(type), member, up);
        done++;
        return kept.size();
    }

    int undo() {
        if (kept.isEmpty()) return STATE;
        bringBack(kept.pop());
        undone++;
        return kept.size();
    }

    int moves(int what) {
        if (what < 0 || what > 2) return OUTSIDE;
        int found = 0;
        for (Type type : types) {
            for (int member = 0; member < 12; member++) {
                if (what != 1 && why(type.number, member, true) == (what == 2 ? 4 : 0)) found++;
                if (what != 0 && why(type.number, member, false) == (what == 2 ? 4 : 0)) found++;
            }
        }
        return found;
    }

    // ---- contracts, what is dead

    int contract(int methods) {
        if (methods < 1 || methods > 63) return OUTSIDE;
        if (contracts.size() == 6) return FULL;
        contracts.add(methods);
        return contracts.size() - 1;
    }

    int fit(int contract, int what) {
        if (contract < 0 || contract >= contracts.size()) return UNKNOWN;
        if (what < 0 || what > 2) return OUTSIDE;
        int methods = contracts.get(contract);
        if (what == 0) return methods;
        int fits = 0;
        int nearest = NONE;
        for (int lacks = 6; lacks >= 0; lacks--) {
            for (int type = types.size() - 1; type >= 0; type--) {
                if (Integer.bitCount(methods) - Integer.bitCount(methods & of(type, 5)) != lacks) continue;
                if (lacks == 0) fits |= 1 << type;
                else nearest = type;
            }
        }
        return what == 1 ? fits : nearest;
    }

    int common(int bits) {
        if (bits <= 0 || bits >= 1 << types.size()) return OUTSIDE;
        List<Integer> shared = new ArrayList<>(List.of(0, 1, 2, 3, 4, 5));
        for (Type type : types) {
            if ((bits & 1 << type.number) != 0) shared.retainAll(answered(type));
        }
        return bits(shared);
    }

    int dead(int body) {
        if (body < 0 || body >= bodies.size()) return UNKNOWN;
        for (List<Event> events : tracesOfObjects().values()) {
            if (events.contains(new Event(0, body)) || events.contains(new Event(1, body))) return 0;
        }
        return 1;
    }

    int count(int what) {
        switch (what) {
            case 0: return page.length();
            case 1: return types.size();
            case 2: return bodies.size();
            case 3: return kept.size();
            case 4: return contracts.size();
            case 5: return done;
            case 6: return undone;
            case 7:
                int dead = 0;
                for (int body = 0; body < bodies.size(); body++) dead += dead(body);
                return dead;
            case 8:
                int missing = 0;
                for (List<Event> events : tracesOfObjects().values()) {
                    for (Event event : events) missing += event.kind == 3 ? 1 : 0;
                }
                return missing;
            default: return OUTSIDE;
        }
    }

    long digest() {
        List<Integer> all = new ArrayList<>();
        for (int type = 0; type < types.size(); type++) {
            for (int n = 0; n <= 6; n++) all.add(of(type, n));
            for (int n = 0; n <= 11; n++) all.add(has(type, n));
            for (int method = 0; method <= 5; method++) {
                for (int n = 0; n <= 1; n++) all.add(answer(type, method, n));
                for (int n = 0; n <= 1; n++) all.add(trace(type, method, n));
                Run run = traced(types.get(type), method);
                if (run == null) continue;
                for (Event event : run.events) {
                    all.add(event.kind);
                    all.add(event.number);
                }
            }
        }
        for (int body = 0; body < bodies.size(); body++) {
            all.add(body(body, 0));
            for (int n = 10; n <= 15; n++) all.add(body(body, n));
            all.add(dead(body));
        }
        for (int n = 0; n <= 2; n++) all.add(moves(n));
        for (int contract = 0; contract < contracts.size(); contract++) {
            for (int n = 0; n <= 2; n++) all.add(fit(contract, n));
        }
        for (char letter : page.toString().toCharArray()) all.add((int) letter);
        for (int n = 0; n <= 8; n++) all.add(count(n));
        long h = 1663;
        for (int number : all) h = 31 * h + number;
        return h;
    }
}
