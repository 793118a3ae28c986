import java.util.ArrayDeque;
import java.util.ArrayList;
import java.util.Arrays;
import java.util.HashSet;
import java.util.List;
import java.util.Set;
import java.util.regex.Matcher;
import java.util.regex.Pattern;

/**
 * The document said a second time, in the plainest way and with other means than the program:
 * states are copied whole, what an act would do is tried on a copy, texts are matched by a pattern.
 */
final class Model {
    private static final String EDIT = "(1[01]?|0|[2-9])=([1-9][0-9]?|0)";
    private static final Pattern ROW = Pattern.compile(EDIT + "(," + EDIT + ")*");
    private static final int OK = 0;

    private static final class Stored {
        int kind;
        int parent;
        int second;
        int base;
        boolean spoiled;
        int[] fields;

        Stored copy() {
            Stored copy = new Stored();
            copy.kind = kind;
            copy.parent = parent;
            copy.second = second;
            copy.base = base;
            copy.spoiled = spoiled;
            copy.fields = fields;
            return copy;
        }
    }

    private static final class State {
        List<Stored> all = new ArrayList<>();
        List<Integer> heads = new ArrayList<>();
        int limit = 4;
        int merges;
        int conflicts;

        State copy() {
            State copy = new State();
            for (Stored one : all) {
                copy.all.add(one.copy());
            }
            copy.heads.addAll(heads);
            copy.limit = limit;
            copy.merges = merges;
            copy.conflicts = conflicts;
            return copy;
        }
    }

    private State s = new State();
    private State snapshot;
    private final ArrayDeque<State> history = new ArrayDeque<>();
    private final StringBuilder text = new StringBuilder();

    Model() {
        Stored first = new Stored();
        first.parent = -5;
        first.second = -5;
        first.base = -5;
        first.fields = new int[12];
        s.all.add(first);
        s.heads.add(0);
    }

    // ---- single facts

    private boolean present(int v) {
        return v >= 0 && v < s.all.size() && s.all.get(v).kind != 2;
    }

    private boolean kept(int v) {
        return present(v) && s.all.get(v).kind == 0;
    }

    private boolean isHead(int h) {
        return h >= 0 && h < s.heads.size();
    }

    private static List<Integer> wayOf(State s, int v) {
        List<Integer> way = new ArrayList<>();
        for (int at = v; at != -5; at = s.all.get(at).base) {
            way.add(at);
        }
        return way;
    }

    private boolean readable(int v) {
        return wayOf(s, v).stream().noneMatch(at -> s.all.get(at).spoiled);
    }

    private static int diff(int[] one, int[] other) {
        int found = 0;
        for (int f = 0; f < 12; f++) {
            found += one[f] == other[f] ? 0 : 1;
        }
        return found;
    }

    private static int cost(State s, int v) {
        Stored one = s.all.get(v);
        if (one.kind == 2) {
            return 0;
        }
        return one.base == -5 ? 12 : 1 + 2 * diff(one.fields, s.all.get(one.base).fields);
    }

    private static int total(State s) {
        int cost = 0;
        for (int v = 0; v < s.all.size(); v++) {
            cost += cost(s, v);
        }
        return cost;
    }

    private int unreadable() {
        int found = 0;
        for (int v = 0; v < s.all.size(); v++) {
            found += present(v) && !readable(v) ? 1 : 0;
        }
        return found;
    }

    private static int bases(State s, int v) {
        return (int) s.all.stream().filter(one -> one.kind != 2 && one.base == v).count();
    }

    private static int mostSteps(State s) {
        int most = 0;
        for (int v = 0; v < s.all.size(); v++) {
            most = s.all.get(v).kind == 2 ? most : Math.max(most, wayOf(s, v).size() - 1);
        }
        return most;
    }

    /** Lets hidden versions go until none is left that is no base. */
    private static int sweep(State s) {
        int gone = 0;
        for (boolean again = true; again;) {
            again = false;
            for (int v = 0; v < s.all.size(); v++) {
                Stored one = s.all.get(v);
                if (one.kind == 1 && bases(s, v) == 0) {
                    one.kind = 2;
                    one.base = -5;
                    one.spoiled = false;
                    gone++;
                    again = true;
                }
            }
        }
        return gone;
    }

    private int fault() {
        for (int end = 1; end <= text.length(); end++) {
            Matcher part = ROW.matcher(text.substring(0, end));
            if (!part.matches() && !part.hitEnd()) {
                return end - 1;
            }
        }
        return ROW.matcher(text).matches() ? -1 : text.length();
    }

    private int[] edited(int v) {
        int[] fields = s.all.get(v).fields.clone();
        for (String edit : text.toString().split(",")) {
            String[] parts = edit.split("=");
            fields[Integer.parseInt(parts[0])] = Integer.parseInt(parts[1]);
        }
        return fields;
    }

    private Set<Integer> ancestors(int v) {
        Set<Integer> found = new HashSet<>();
        if (v != -5) {
            found.add(v);
            found.addAll(ancestors(s.all.get(v).parent, found));
            found.addAll(ancestors(s.all.get(v).second, found));
        }
        return found;
    }

    private Set<Integer> ancestors(int v, Set<Integer> known) {
        return known.contains(v) ? Set.of() : ancestors(v);
    }

    private int ancestorOfBoth(int one, int other) {
        Set<Integer> both = ancestors(one);
        both.retainAll(ancestors(other));
        return both.stream().filter(v -> present(v) && readable(v)).max(Integer::compare).orElse(-5);
    }

    private void act(State before) {
        history.addLast(before);
        if (history.size() > 4) {
            history.removeFirst();
        }
    }

    private int addVersion(int head, int second, int[] fields) {
        int parent = s.heads.get(head);
        Stored one = new Stored();
        one.parent = parent;
        one.second = second;
        one.fields = fields;
        one.base = parent;
        int made = s.all.size();
        s.all.add(one);
        if (wayOf(s, made).size() - 1 > s.limit || cost(s, made) > 12) {
            one.base = -5;
        }
        s.heads.set(head, made);
        return made;
    }

    // ---- acts

    int commit(int head) {
        if (!isHead(head)) {
            return -1;
        }
        if (fault() >= 0) {
            return -100 - fault();
        }
        int at = s.heads.get(head);
        if (!readable(at)) {
            return -6;
        }
        if (s.all.size() == 40) {
            return -3;
        }
        int[] fields = edited(at);
        if (Arrays.equals(fields, s.all.get(at).fields)) {
            return -5;
        }
        act(s.copy());
        return addVersion(head, -5, fields);
    }

    int fork(int v) {
        if (!kept(v)) {
            return -1;
        }
        if (s.heads.size() == 4) {
            return -3;
        }
        act(s.copy());
        s.heads.add(v);
        return s.heads.size() - 1;
    }

    int moveHead(int head, int v) {
        if (!isHead(head) || !kept(v)) {
            return -1;
        }
        int was = s.heads.get(head);
        if (was == v) {
            return -5;
        }
        act(s.copy());
        return s.heads.set(head, v);
    }

    int merge(int head, int other) {
        if (!isHead(head) || !isHead(other)) {
            return -1;
        }
        if (head == other) {
            return -2;
        }
        int mine = s.heads.get(head);
        int theirs = s.heads.get(other);
        if (!readable(mine) || !readable(theirs)) {
            return -6;
        }
        int old = ancestorOfBoth(mine, theirs);
        if (old == -5) {
            return -4;
        }
        if (s.all.size() == 40) {
            return -3;
        }
        if (ancestors(mine).contains(theirs)) {
            return -5;
        }
        act(s.copy());
        int conflicts = 0;
        int[] fields = new int[12];
        for (int f = 0; f < 12; f++) {
            int a = s.all.get(mine).fields[f];
            int b = s.all.get(theirs).fields[f];
            int c = s.all.get(old).fields[f];
            if (a == b) {
                fields[f] = a;
            } else if (a == c) {
                fields[f] = b;
            } else if (b == c) {
                fields[f] = a;
            } else {
                fields[f] = a;
                conflicts++;
            }
        }
        addVersion(head, theirs, fields);
        s.merges++;
        s.conflicts += conflicts;
        return conflicts;
    }

    int drop(int v) {
        if (!kept(v)) {
            return -1;
        }
        if (s.heads.contains(v)) {
            return -4;
        }
        act(s.copy());
        s.all.get(v).kind = 1;
        return sweep(s);
    }

    private void store(State t, int v, int base) {
        t.all.get(v).base = base;
        t.all.get(v).spoiled = false;
    }

    int storeWhole(int v) {
        if (!present(v)) {
            return -1;
        }
        if (!readable(v)) {
            return -6;
        }
        if (s.all.get(v).base == -5) {
            return -5;
        }
        State before = s.copy();
        act(before);
        store(s, v, -5);
        sweep(s);
        return 1000 + total(before) - total(s);
    }

    private int canRebase(int v, int base) {
        if (wayOf(s, base).contains(v)) {
            return -4;
        }
        State tried = s.copy();
        store(tried, v, base);
        return mostSteps(tried) > s.limit ? -7 : OK;
    }

    int rebase(int v, int base) {
        if (!present(v) || !present(base)) {
            return -1;
        }
        if (v == base) {
            return -2;
        }
        if (!readable(v) || !readable(base)) {
            return -6;
        }
        int can = canRebase(v, base);
        if (can != OK) {
            return can;
        }
        if (s.all.get(v).base == base) {
            return -5;
        }
        act(s.copy());
        store(s, v, base);
        sweep(s);
        return cost(s, v);
    }

    int setLimit(int limit) {
        if (limit < 1 || limit > 8) {
            return -2;
        }
        if (mostSteps(s) > limit) {
            return -7;
        }
        int was = s.limit;
        if (was == limit) {
            return -5;
        }
        act(s.copy());
        s.limit = limit;
        return was;
    }

    int optimize() {
        if (unreadable() > 0) {
            return -6;
        }
        State tried = s.copy();
        boolean changed = false;
        for (int v = 0; v < s.all.size(); v++) {
            if (!present(v)) {
                continue;
            }
            int least = 12;
            int best = -5;
            for (int u = v - 1; u >= 0; u--) {
                int cost = 1 + 2 * diff(s.all.get(u).fields, s.all.get(v).fields);
                if (present(u) && wayOf(tried, u).size() - 1 < s.limit
                        && (cost < least || best != -5 && cost == least)) {
                    least = cost;
                    best = u;
                }
            }
            changed |= s.all.get(v).base != best;
            store(tried, v, best);
        }
        if (!changed) {
            return -5;
        }
        act(s);
        int before = total(s);
        s = tried;
        sweep(s);
        return 1000 + before - total(s);
    }

    int spoil(int v) {
        if (!present(v)) {
            return -1;
        }
        if (s.all.get(v).spoiled) {
            return -5;
        }
        act(s.copy());
        s.all.get(v).spoiled = true;
        return unreadable();
    }

    int mend(int v, int other) {
        if (!present(v) || !present(other)) {
            return -1;
        }
        if (v == other) {
            return -2;
        }
        if (fault() >= 0) {
            return -100 - fault();
        }
        if (!readable(other)) {
            return -6;
        }
        if (!Arrays.equals(edited(other), s.all.get(v).fields)) {
            return -4;
        }
        if (!s.all.get(v).spoiled) {
            return -5;
        }
        act(s.copy());
        store(s, v, -5);
        sweep(s);
        return unreadable();
    }

    // ---- text and history

    int type(char c) {
        if (text.length() == 60) {
            return -3;
        }
        return text.append(c).length();
    }

    int clearText() {
        int was = text.length();
        text.setLength(0);
        return was;
    }

    int undo() {
        if (history.isEmpty()) {
            return -5;
        }
        s = history.removeLast();
        return history.size();
    }

    int keep() {
        snapshot = s.copy();
        return count(1) + count(2);
    }

    int restore() {
        if (snapshot == null) {
            return -5;
        }
        act(s);
        s = snapshot.copy();
        return count(1) + count(2);
    }

    // ---- what is told

    /** A field of a version whatever becomes of it, by which fitting mends are found. */
    int sealed(int v, int field) {
        return v >= 0 && v < s.all.size() ? s.all.get(v).fields[field] : 0;
    }

    int read(int v, int field) {
        if (!kept(v) || field < 0 || field > 11) {
            return -1;
        }
        return readable(v) ? s.all.get(v).fields[field] : -6;
    }

    int version(int v, int what) {
        if (v < 0 || v >= s.all.size()) {
            return -1;
        }
        Stored one = s.all.get(v);
        switch (what) {
            case 0:
                return one.kind;
            case 1:
                return one.parent;
            case 2:
                return one.second;
            case 3:
                return one.base;
            case 4:
                return one.kind == 2 ? -5 : wayOf(s, v).size() - 1;
            case 5:
                return cost(s, v);
            case 6:
                return bases(s, v);
            case 7:
                return one.spoiled ? 1 : 0;
            default:
                return -2;
        }
    }

    int why(int v, int what) {
        if (!present(v)) {
            return -1;
        }
        if (what < 0 || what > 2) {
            return -2;
        }
        if (readable(v)) {
            return -5;
        }
        List<Integer> way = wayOf(s, v);
        List<Integer> bad = way.stream().filter(at -> s.all.get(at).spoiled).toList();
        return what == 0 ? bad.get(0) : what == 1 ? way.indexOf(bad.get(0)) : bad.size();
    }

    int way(int v, int step) {
        if (!present(v)) {
            return -1;
        }
        if (step < 0) {
            return -2;
        }
        List<Integer> way = wayOf(s, v);
        return step < way.size() ? way.get(step) : -5;
    }

    int differ(int v, int other) {
        if (!present(v) || !present(other)) {
            return -1;
        }
        if (!readable(v) || !readable(other)) {
            return -6;
        }
        return diff(s.all.get(v).fields, s.all.get(other).fields);
    }

    int bestBase(int v) {
        if (!present(v)) {
            return -1;
        }
        if (!readable(v)) {
            return -6;
        }
        for (int fields = 0; fields <= 5; fields++) {
            for (int u = 0; u < s.all.size(); u++) {
                if (present(u) && readable(u) && canRebase(v, u) == OK
                        && diff(s.all.get(u).fields, s.all.get(v).fields) == fields) {
                    return u;
                }
            }
        }
        return -5;
    }

    int common(int one, int other) {
        if (!isHead(one) || !isHead(other)) {
            return -1;
        }
        return ancestorOfBoth(s.heads.get(one), s.heads.get(other));
    }

    int head(int h) {
        return isHead(h) ? s.heads.get(h) : -1;
    }

    int count(int what) {
        int[] kinds = new int[3];
        int whole = 0;
        for (Stored one : s.all) {
            kinds[one.kind]++;
            whole += one.kind != 2 && one.base == -5 ? 1 : 0;
        }
        int[] counts = {s.all.size(), kinds[0], kinds[1], kinds[2], s.heads.size(), s.limit, total(s),
            whole, mostSteps(s), unreadable(), s.merges, s.conflicts, history.size(), text.length()};
        return what < 0 || what >= counts.length ? -2 : counts[what];
    }
}
