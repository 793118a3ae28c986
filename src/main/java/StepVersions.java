import java.util.Arrays;

/**
 * Versions of a record that are stored whole or as changes from another version, so that each is
 * read within a limited number of steps. The promises that it keeps stand in DOC.md.
 */
public final class StepVersions {
    /** There is no such version, head or field. */
    public static final int UNKNOWN = -1;
    /** Another argument is out of range. */
    public static final int BAD_VALUE = -2;
    /** There is no more room. */
    public static final int FULL = -3;
    /** This is not possible. */
    public static final int NOT_POSSIBLE = -4;
    /** There is no such thing; not an error. */
    public static final int NONE = -5;
    /** The version cannot be read. */
    public static final int SPOILED = -6;
    /** Some version would have more steps than the limit. */
    public static final int TOO_FAR = -7;

    private static final int FIELDS = 12;
    private static final int LAST_VALUE = 99;
    private static final int VERSIONS = 40;
    private static final int HEADS = 4;
    private static final int STATES = 4;
    private static final int TEXT_ROOM = 60;
    private static final int FIRST_LIMIT = 4;
    private static final int LAST_LIMIT = 8;
    private static final int WHOLE_COST = 12;

    private static final int KEPT = 0;
    private static final int HIDDEN = 1;
    private static final int GONE = 2;

    // What is added to answers that could otherwise be taken for errors.
    private static final int FAULT_SHIFT = -100;
    private static final int SAVING_SHIFT = 1000;

    private final State state = new State();
    private final Versions versions = state.versions;
    private final History history = new History();
    private final EditText text = new EditText();
    private final Plan plan = new Plan();
    private final int[] proposed = new int[FIELDS];
    private State snapshot = null;

    /** Creates a record with its version 0. */
    public StepVersions() {
        versions.add(NONE, NONE, new int[FIELDS], FIRST_LIMIT);
    }

    // ---- heads, committing, merging

    /** Commits the edits of the text to a head; answers the number of the new version. */
    public int commit(int head) {
        if (!state.isHead(head)) {
            return UNKNOWN;
        }
        int fault = text.readEdits();
        if (fault >= 0) {
            return FAULT_SHIFT - fault;
        }
        int parent = state.placeOf(head);
        if (!versions.canBeRead(parent)) {
            return SPOILED;
        }
        if (versions.made >= VERSIONS) {
            return FULL;
        }
        text.propose(versions, parent, proposed);
        if (versions.differingFrom(parent, proposed) == 0) {
            return NONE;
        }
        history.push(state);
        return addAtHead(head, NONE);
    }

    /** Makes a head at a kept version; answers the number of the head. */
    public int fork(int version) {
        if (!versions.isKept(version)) {
            return UNKNOWN;
        }
        if (state.heads >= HEADS) {
            return FULL;
        }
        history.push(state);
        return state.addHead(version);
    }

    /** Lets a head be at another version; answers the version at which it was. */
    public int moveHead(int head, int version) {
        if (!state.isHead(head) || !versions.isKept(version)) {
            return UNKNOWN;
        }
        int previous = state.placeOf(head);
        if (previous == version) {
            return NONE;
        }
        history.push(state);
        state.place(head, version);
        return previous;
    }

    /** Merges the version of another head into that of a head; answers the number of conflicts. */
    public int merge(int head, int other) {
        if (!state.isHead(head) || !state.isHead(other)) {
            return UNKNOWN;
        }
        if (head == other) {
            return BAD_VALUE;
        }
        int mine = state.placeOf(head);
        int theirs = state.placeOf(other);
        if (!versions.canBeRead(mine) || !versions.canBeRead(theirs)) {
            return SPOILED;
        }
        int ancestor = versions.commonAncestor(mine, theirs);
        if (ancestor < 0) {
            return NOT_POSSIBLE;
        }
        if (versions.made >= VERSIONS) {
            return FULL;
        }
        if (versions.isAncestor(theirs, mine)) {
            return NONE;
        }
        history.push(state);
        int conflicts = versions.mergeInto(proposed, mine, theirs, ancestor);
        addAtHead(head, theirs);
        state.merges++;
        state.conflicts += conflicts;
        return conflicts;
    }

    /** Drops a version; answers how many versions are gone by that. */
    public int drop(int version) {
        if (!versions.isKept(version)) {
            return UNKNOWN;
        }
        if (state.hasHeadAt(version)) {
            return NOT_POSSIBLE;
        }
        history.push(state);
        return versions.discard(version);
    }

    // ---- storing

    /** Stores a version whole; answers by how much all becomes cheaper, plus 1000. */
    public int storeWhole(int version) {
        if (!versions.isPresent(version)) {
            return UNKNOWN;
        }
        if (!versions.canBeRead(version)) {
            return SPOILED;
        }
        if (versions.baseOf(version) < 0) {
            return NONE;
        }
        history.push(state);
        int before = versions.totalCost();
        versions.storeBy(version, NONE);
        return SAVING_SHIFT + before - versions.totalCost();
    }

    /** Stores a version as changes from another base; answers what that costs. */
    public int rebase(int version, int base) {
        if (!versions.isPresent(version) || !versions.isPresent(base)) {
            return UNKNOWN;
        }
        if (version == base) {
            return BAD_VALUE;
        }
        if (!versions.canBeRead(version) || !versions.canBeRead(base)) {
            return SPOILED;
        }
        if (versions.isOnWay(version, base)) {
            return NOT_POSSIBLE;
        }
        if (versions.stepsBy(base, versions.heightOver(version)) > state.limit) {
            return TOO_FAR;
        }
        if (versions.baseOf(version) == base) {
            return NONE;
        }
        history.push(state);
        versions.storeBy(version, base);
        return versions.costOf(version);
    }

    /** Sets the limit of steps; answers the previous one. */
    public int setLimit(int limit) {
        if (limit < 1 || limit > LAST_LIMIT) {
            return BAD_VALUE;
        }
        if (versions.mostSteps() > limit) {
            return TOO_FAR;
        }
        int previous = state.limit;
        if (previous == limit) {
            return NONE;
        }
        history.push(state);
        state.limit = limit;
        return previous;
    }

    /** Stores all versions anew and cheaply; answers by how much all becomes cheaper, plus 1000. */
    public int optimize() {
        if (versions.unreadable() > 0) {
            return SPOILED;
        }
        plan.makeFor(versions, state.limit);
        if (plan.isAsStored(versions)) {
            return NONE;
        }
        history.push(state);
        int before = versions.totalCost();
        versions.storeAllBy(plan.bases);
        return SAVING_SHIFT + before - versions.totalCost();
    }

    // ---- spoiled data

    /** Spoils the data of a version; answers how many versions cannot be read then. */
    public int spoil(int version) {
        if (!versions.isPresent(version)) {
            return UNKNOWN;
        }
        if (versions.isSpoiled(version)) {
            return NONE;
        }
        history.push(state);
        versions.makeSpoiled(version);
        return versions.unreadable();
    }

    /** Mends a spoiled version by another one with edits; answers how many cannot be read then. */
    public int mend(int version, int other) {
        if (!versions.isPresent(version) || !versions.isPresent(other)) {
            return UNKNOWN;
        }
        if (version == other) {
            return BAD_VALUE;
        }
        int fault = text.readEdits();
        if (fault >= 0) {
            return FAULT_SHIFT - fault;
        }
        if (!versions.canBeRead(other)) {
            return SPOILED;
        }
        text.propose(versions, other, proposed);
        if (versions.differingFrom(version, proposed) > 0) {
            return NOT_POSSIBLE;
        }
        if (!versions.isSpoiled(version)) {
            return NONE;
        }
        history.push(state);
        versions.storeBy(version, NONE);
        return versions.unreadable();
    }

    // ---- texts

    /** Types a character behind the text; answers the length then. */
    public int type(char character) {
        if (text.length >= TEXT_ROOM) {
            return FULL;
        }
        text.append(character);
        return text.length;
    }

    /** Empties the text; answers the length that it had. */
    public int clearText() {
        return text.empty();
    }

    // ---- history

    /** Removes and restores the latest state of the history; answers how many are left. */
    public int undo() {
        if (history.size == 0) {
            return NONE;
        }
        history.popInto(state);
        return history.size;
    }

    /** Takes a snapshot of the state; answers the number of present versions. */
    public int keep() {
        if (snapshot == null) {
            snapshot = new State();
        }
        snapshot.copyFrom(state);
        return versions.present();
    }

    /** Restores the state of the snapshot; answers the number of present versions then. */
    public int restore() {
        if (snapshot == null) {
            return NONE;
        }
        history.push(state);
        state.copyFrom(snapshot);
        return versions.present();
    }

    // ---- what is told

    /** Tells the value of a field of a kept version. */
    public int read(int version, int field) {
        if (!versions.isKept(version) || field < 0 || field >= FIELDS) {
            return UNKNOWN;
        }
        return versions.canBeRead(version) ? versions.valueOf(version, field) : SPOILED;
    }

    /** Tells how a version stands: 0 to 7 for what, as the document lists them. */
    public int version(int version, int what) {
        if (!versions.isNumber(version)) {
            return UNKNOWN;
        }
        switch (what) {
            case 0:
                return versions.kindOf(version);
            case 1:
                return versions.parentOf(version);
            case 2:
                return versions.secondParentOf(version);
            case 3:
                return versions.baseOf(version);
            case 4:
                return versions.isPresent(version) ? versions.stepsOf(version) : NONE;
            case 5:
                return versions.costOf(version);
            case 6:
                return versions.dependants(version);
            case 7:
                return versions.isSpoiled(version) ? 1 : 0;
            default:
                return BAD_VALUE;
        }
    }

    /** Tells why a version cannot be read: who is to blame, how far away, how many are spoiled. */
    public int why(int version, int what) {
        if (!versions.isPresent(version)) {
            return UNKNOWN;
        }
        if (what < 0 || what > 2) {
            return BAD_VALUE;
        }
        int blamed = versions.blamedFor(version);
        if (blamed < 0) {
            return NONE;
        }
        if (what == 0) {
            return blamed;
        }
        return what == 1 ? versions.distance(version, blamed) : versions.spoiledOnWay(version);
    }

    /** Tells the version that is a number of steps away on the way of a version. */
    public int way(int version, int step) {
        if (!versions.isPresent(version)) {
            return UNKNOWN;
        }
        if (step < 0) {
            return BAD_VALUE;
        }
        return versions.onWay(version, step);
    }

    /** Tells how many fields of two versions differ. */
    public int differ(int version, int other) {
        if (!versions.isPresent(version) || !versions.isPresent(other)) {
            return UNKNOWN;
        }
        if (!versions.canBeRead(version) || !versions.canBeRead(other)) {
            return SPOILED;
        }
        return versions.differing(version, other);
    }

    /** Finds the base by which a version would be stored most cheaply. */
    public int bestBase(int version) {
        if (!versions.isPresent(version)) {
            return UNKNOWN;
        }
        if (!versions.canBeRead(version)) {
            return SPOILED;
        }
        return versions.cheapestBase(version, state.limit);
    }

    /** Tells the common ancestor of the versions of two heads. */
    public int common(int one, int other) {
        if (!state.isHead(one) || !state.isHead(other)) {
            return UNKNOWN;
        }
        return versions.commonAncestor(state.placeOf(one), state.placeOf(other));
    }

    /** Tells the version at which a head is. */
    public int head(int head) {
        return state.isHead(head) ? state.placeOf(head) : UNKNOWN;
    }

    /** Counts: 0 to 13 for what, as the document lists them. */
    public int count(int what) {
        switch (what) {
            case 0:
                return versions.made;
            case 1:
                return versions.ofKind(KEPT);
            case 2:
                return versions.ofKind(HIDDEN);
            case 3:
                return versions.ofKind(GONE);
            case 4:
                return state.heads;
            case 5:
                return state.limit;
            case 6:
                return versions.totalCost();
            case 7:
                return versions.storedWhole();
            case 8:
                return versions.mostSteps();
            case 9:
                return versions.unreadable();
            case 10:
                return state.merges;
            case 11:
                return state.conflicts;
            case 12:
                return history.size;
            case 13:
                return text.length;
            default:
                return BAD_VALUE;
        }
    }

    /** Makes a version of the proposed fields behind that of a head, which is at it then. */
    private int addAtHead(int head, int secondParent) {
        int parent = state.placeOf(head);
        int made = versions.add(parent, secondParent, proposed, state.limit);
        state.place(head, made);
        return made;
    }

    /** All that undo and the snapshot bring back. */
    private static final class State {
        final Versions versions = new Versions();
        private final int[] places = new int[HEADS];
        int heads = 1;
        int limit = FIRST_LIMIT;
        int merges = 0;
        int conflicts = 0;

        void copyFrom(State other) {
            versions.copyFrom(other.versions);
            System.arraycopy(other.places, 0, places, 0, HEADS);
            heads = other.heads;
            limit = other.limit;
            merges = other.merges;
            conflicts = other.conflicts;
        }

        boolean isHead(int head) {
            return head >= 0 && head < heads && head < HEADS;
        }

        int placeOf(int head) {
            return isHead(head) ? places[head] : NONE;
        }

        void place(int head, int version) {
            if (isHead(head)) {
                places[head] = version;
            }
        }

        int addHead(int version) {
            if (heads >= HEADS) {
                return FULL;
            }
            int head = heads;
            heads++;
            place(head, version);
            return head;
        }

        boolean hasHeadAt(int version) {
            for (int head = 0; head < heads; head++) {
                if (placeOf(head) == version) {
                    return true;
                }
            }
            return false;
        }
    }

    /** The versions so far, and how the present ones are stored. */
    private static final class Versions {
        private final int[] kinds = new int[VERSIONS];
        private final int[] parents = new int[VERSIONS];
        private final int[] secondParents = new int[VERSIONS];
        private final int[] bases = new int[VERSIONS];
        private final int[] spoils = new int[VERSIONS];
        private final int[] values = new int[VERSIONS * FIELDS];
        int made = 0;

        void copyFrom(Versions other) {
            System.arraycopy(other.kinds, 0, kinds, 0, VERSIONS);
            System.arraycopy(other.parents, 0, parents, 0, VERSIONS);
            System.arraycopy(other.secondParents, 0, secondParents, 0, VERSIONS);
            System.arraycopy(other.bases, 0, bases, 0, VERSIONS);
            System.arraycopy(other.spoils, 0, spoils, 0, VERSIONS);
            System.arraycopy(other.values, 0, values, 0, VERSIONS * FIELDS);
            made = other.made;
        }

        // -- single versions

        boolean isNumber(int version) {
            return version >= 0 && version < made && version < VERSIONS;
        }

        boolean isPresent(int version) {
            return isNumber(version) && kinds[version] != GONE;
        }

        boolean isKept(int version) {
            return isNumber(version) && kinds[version] == KEPT;
        }

        boolean isHidden(int version) {
            return isNumber(version) && kinds[version] == HIDDEN;
        }

        boolean isSpoiled(int version) {
            return isNumber(version) && spoils[version] == 1;
        }

        int kindOf(int version) {
            return isNumber(version) ? kinds[version] : GONE;
        }

        int parentOf(int version) {
            return isNumber(version) ? parents[version] : NONE;
        }

        int secondParentOf(int version) {
            return isNumber(version) ? secondParents[version] : NONE;
        }

        int baseOf(int version) {
            return isNumber(version) ? bases[version] : NONE;
        }

        int valueOf(int version, int field) {
            boolean known = isNumber(version) && field >= 0 && field < FIELDS;
            return known ? values[version * FIELDS + field] : 0;
        }

        int differing(int version, int other) {
            if (!isNumber(version) || !isNumber(other)) {
                return 0;
            }
            int differing = 0;
            int ofVersion = version * FIELDS;
            int ofOther = other * FIELDS;
            for (int field = 0; field < FIELDS; field++) {
                if (values[ofVersion + field] != values[ofOther + field]) {
                    differing++;
                }
            }
            return differing;
        }

        int differingFrom(int version, int[] row) {
            int differing = 0;
            for (int field = 0; field < FIELDS && field < row.length; field++) {
                if (valueOf(version, field) != row[field]) {
                    differing++;
                }
            }
            return differing;
        }

        int costOf(int version) {
            if (!isPresent(version)) {
                return 0;
            }
            int base = baseOf(version);
            return base < 0 ? WHOLE_COST : costOfChanges(differing(version, base));
        }

        static int costOfChanges(int differing) {
            return 1 + 2 * differing;
        }

        int dependants(int version) {
            int dependants = 0;
            for (int other = 0; other < made; other++) {
                if (isPresent(other) && baseOf(other) == version) {
                    dependants++;
                }
            }
            return dependants;
        }

        // -- the way of a version

        int stepsOf(int version) {
            int steps = 0;
            int at = baseOf(version);
            while (steps < VERSIONS && at >= 0) {
                steps++;
                at = baseOf(at);
            }
            return steps;
        }

        int onWay(int version, int step) {
            int at = version;
            for (int steps = 0; steps < step && steps < VERSIONS && at >= 0; steps++) {
                at = baseOf(at);
            }
            return at;
        }

        /** How many steps away a version is on the way of another, or NONE if it is not on it. */
        int distance(int from, int version) {
            int at = from;
            for (int steps = 0; steps < VERSIONS && at >= 0; steps++) {
                if (at == version) {
                    return steps;
                }
                at = baseOf(at);
            }
            return NONE;
        }

        boolean isOnWay(int version, int from) {
            return distance(from, version) >= 0;
        }

        /** The most steps by which a present version is away that has this one on its way. */
        int heightOver(int version) {
            int height = 0;
            for (int other = 0; other < made; other++) {
                if (isPresent(other)) {
                    height = Math.max(height, distance(other, version));
                }
            }
            return height;
        }

        /** The most steps that there are if what has this height is stored by a base. */
        int stepsBy(int base, int height) {
            return stepsOf(base) + 1 + height;
        }

        int blamedFor(int version) {
            int at = version;
            for (int steps = 0; steps < VERSIONS && at >= 0; steps++) {
                if (isSpoiled(at)) {
                    return at;
                }
                at = baseOf(at);
            }
            return NONE;
        }

        boolean canBeRead(int version) {
            return blamedFor(version) < 0;
        }

        int spoiledOnWay(int version) {
            int spoiled = 0;
            int at = version;
            for (int steps = 0; steps < VERSIONS && at >= 0; steps++) {
                if (isSpoiled(at)) {
                    spoiled++;
                }
                at = baseOf(at);
            }
            return spoiled;
        }

        int cheapestBase(int version, int limit) {
            int height = heightOver(version);
            int best = NONE;
            int bestCost = WHOLE_COST;
            for (int base = 0; base < made; base++) {
                boolean fits = isPresent(base) && canBeRead(base) && !isOnWay(version, base)
                        && stepsBy(base, height) <= limit;
                int cost = fits ? costOfChanges(differing(version, base)) : WHOLE_COST;
                if (cost < bestCost) {
                    best = base;
                    bestCost = cost;
                }
            }
            return best;
        }

        // -- ancestors, as a set with one bit a version

        private static long bitOf(int version) {
            return version >= 0 && version < VERSIONS ? 1L << version : 0L;
        }

        private long ancestorsOf(int version) {
            long ancestors = bitOf(version);
            // Parents have lower numbers, so one pass downwards meets each after its children.
            for (int at = made - 1; at >= 0; at--) {
                if ((ancestors & bitOf(at)) != 0) {
                    ancestors |= bitOf(parentOf(at)) | bitOf(secondParentOf(at));
                }
            }
            return ancestors;
        }

        boolean isAncestor(int ancestor, int version) {
            return (ancestorsOf(version) & bitOf(ancestor)) != 0;
        }

        int commonAncestor(int one, int other) {
            long both = ancestorsOf(one) & ancestorsOf(other);
            for (int at = made - 1; at >= 0; at--) {
                if ((both & bitOf(at)) != 0 && isPresent(at) && canBeRead(at)) {
                    return at;
                }
            }
            return NONE;
        }

        /** Merges two versions into a row of fields; answers the number of conflicts. */
        int mergeInto(int[] row, int mine, int theirs, int ancestor) {
            int conflicts = 0;
            for (int field = 0; field < FIELDS && field < row.length; field++) {
                int first = valueOf(mine, field);
                int second = valueOf(theirs, field);
                int before = valueOf(ancestor, field);
                row[field] = first == before ? second : first;
                if (first != second && first != before && second != before) {
                    conflicts++;
                }
            }
            return conflicts;
        }

        // -- all versions

        int ofKind(int kind) {
            int found = 0;
            for (int version = 0; version < made; version++) {
                if (kindOf(version) == kind) {
                    found++;
                }
            }
            return found;
        }

        int present() {
            return made - ofKind(GONE);
        }

        int totalCost() {
            int cost = 0;
            for (int version = 0; version < made; version++) {
                cost += costOf(version);
            }
            return cost;
        }

        int storedWhole() {
            int whole = 0;
            for (int version = 0; version < made; version++) {
                if (isPresent(version) && baseOf(version) < 0) {
                    whole++;
                }
            }
            return whole;
        }

        int mostSteps() {
            int most = 0;
            for (int version = 0; version < made; version++) {
                if (isPresent(version)) {
                    most = Math.max(most, stepsOf(version));
                }
            }
            return most;
        }

        int unreadable() {
            int unreadable = 0;
            for (int version = 0; version < made; version++) {
                if (isPresent(version) && !canBeRead(version)) {
                    unreadable++;
                }
            }
            return unreadable;
        }

        // -- changing

        int add(int parent, int secondParent, int[] row, int limit) {
            if (made < 0 || made >= VERSIONS || row.length < FIELDS) {
                return FULL;
            }
            boolean byParent = isPresent(parent) && stepsBy(parent, 0) <= limit
                    && costOfChanges(differingFrom(parent, row)) < WHOLE_COST;
            int version = made;
            made++;
            kinds[version] = KEPT;
            parents[version] = parent;
            secondParents[version] = secondParent;
            bases[version] = byParent ? parent : NONE;
            spoils[version] = 0;
            System.arraycopy(row, 0, values, version * FIELDS, FIELDS);
            return version;
        }

        void makeSpoiled(int version) {
            if (isPresent(version)) {
                spoils[version] = 1;
            }
        }

        /** Makes the data of a version anew: by a base, or whole for NONE. */
        void storeBy(int version, int base) {
            if (!isPresent(version)) {
                return;
            }
            int previous = bases[version];
            bases[version] = base;
            spoils[version] = 0;
            release(previous);
        }

        void storeAllBy(int[] newBases) {
            for (int version = 0; version < made && version < newBases.length; version++) {
                if (isPresent(version)) {
                    bases[version] = newBases[version];
                    spoils[version] = 0;
                }
            }
            // Bases have lower numbers now, so one pass downwards also frees the bases of bases.
            for (int version = made - 1; version >= 0; version--) {
                release(version);
            }
        }

        /** Hides a version, or lets it be gone if nothing is based on it; answers how many go. */
        int discard(int version) {
            if (!isKept(version)) {
                return 0;
            }
            kinds[version] = HIDDEN;
            return release(version);
        }

        /** Lets a hidden version be gone that is no base, and so on; answers how many go. */
        private int release(int version) {
            int released = 0;
            int at = version;
            while (released < VERSIONS && isHidden(at) && dependants(at) == 0) {
                int next = bases[at];
                kinds[at] = GONE;
                bases[at] = NONE;
                spoils[at] = 0;
                released++;
                at = next;
            }
            return released;
        }
    }

    /** How optimizing would store all present versions. */
    private static final class Plan {
        final int[] bases = new int[VERSIONS];
        private final int[] steps = new int[VERSIONS];

        void makeFor(Versions versions, int limit) {
            for (int version = 0; version < versions.made && version < VERSIONS; version++) {
                int base = versions.isPresent(version) ? baseFor(versions, version, limit) : NONE;
                bases[version] = base;
                steps[version] = base >= 0 && base < VERSIONS ? steps[base] + 1 : 0;
            }
        }

        private int baseFor(Versions versions, int version, int limit) {
            int best = NONE;
            int bestCost = WHOLE_COST;
            for (int base = 0; base < version && base < VERSIONS; base++) {
                boolean fits = versions.isPresent(base) && steps[base] < limit;
                int cost = fits
                        ? Versions.costOfChanges(versions.differing(version, base)) : WHOLE_COST;
                if (cost < bestCost) {
                    best = base;
                    bestCost = cost;
                }
            }
            return best;
        }

        boolean isAsStored(Versions versions) {
            for (int version = 0; version < versions.made && version < VERSIONS; version++) {
                if (bases[version] != versions.baseOf(version)) {
                    return false;
                }
            }
            return true;
        }
    }

    /** The latest states, the oldest of which makes room for one more. */
    private static final class History {
        private final State[] rows = new State[STATES];
        private int next = 0;
        int size = 0;

        void push(State state) {
            if (next < 0 || next >= STATES) {
                return;
            }
            // A row is made when it is first needed, and used again ever after.
            State row = rows[next];
            if (row == null) {
                row = new State();
                rows[next] = row;
            }
            row.copyFrom(state);
            next = (next + 1) % STATES;
            size = Math.min(size + 1, STATES);
        }

        void popInto(State state) {
            int latest = (next + STATES - 1) % STATES;
            if (size <= 0 || latest < 0 || latest >= STATES) {
                return;
            }
            State row = rows[latest];
            if (row == null) {
                return;
            }
            state.copyFrom(row);
            next = latest;
            size--;
        }
    }

    /** The text and the edits that it tells. */
    private static final class EditText {
        private final char[] signs = new char[TEXT_ROOM];
        private final int[] edits = new int[FIELDS];
        private int at = 0;
        int length = 0;

        void append(char sign) {
            if (length >= 0 && length < TEXT_ROOM) {
                signs[length] = sign;
                length++;
            }
        }

        int empty() {
            int previous = length;
            length = 0;
            return previous;
        }

        /** Reads the edits of the text; answers its fault, or NONE if it has none. */
        int readEdits() {
            Arrays.fill(edits, NONE);
            at = 0;
            // An edit takes a character at least, so there are never more edits than characters.
            for (int edit = 0; edit < TEXT_ROOM; edit++) {
                if (!readsEdit()) {
                    return at;
                }
                if (at == length) {
                    return NONE;
                }
                if (!reads(',')) {
                    return at;
                }
            }
            return at;
        }

        /** Puts the fields of a version with the edits that were read last into a row. */
        void propose(Versions versions, int version, int[] row) {
            for (int field = 0; field < FIELDS && field < row.length; field++) {
                int edit = edits[field];
                row[field] = edit < 0 ? versions.valueOf(version, field) : edit;
            }
        }

        private boolean readsEdit() {
            int field = readNumber(FIELDS - 1);
            if (field < 0 || field >= FIELDS || !reads('=')) {
                return false;
            }
            int value = readNumber(LAST_VALUE);
            if (value < 0) {
                return false;
            }
            edits[field] = value;
            return true;
        }

        private boolean reads(char sign) {
            if (at < 0 || at >= length || at >= TEXT_ROOM || signs[at] != sign) {
                return false;
            }
            at++;
            return true;
        }

        /** Reads the longest number that is allowed, or NONE if none is. */
        private int readNumber(int most) {
            int first = digitAt(at);
            if (first < 0) {
                return NONE;
            }
            at++;
            int second = digitAt(at);
            int both = first * 10 + second;
            if (first == 0 || second < 0 || both > most) {
                return first;
            }
            at++;
            return both;
        }

        private int digitAt(int index) {
            if (index < 0 || index >= length || index >= TEXT_ROOM) {
                return NONE;
            }
            char sign = signs[index];
            return sign >= '0' && sign <= '9' ? sign - '0' : NONE;
        }
    }
}
