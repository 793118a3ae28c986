/** The boundary cases of promises 19, 21, 22 and 26: version, way, differ, count. */
public final class ToldEdgesTest {
    private static final int[] NO_VERSIONS =
            {Integer.MIN_VALUE, -5, -1, 4, 5, 39, 40, 41, Integer.MAX_VALUE};

    public static void main(String[] args) {
        versionKind();
        versionParents();
        versionBase();
        versionSteps();
        versionCost();
        versionBases();
        versionSpoiled();
        versionUnknown();
        versionBadValue();
        wayReturns();
        wayUnknown();
        wayBadValue();
        wayNone();
        differReturns();
        differUnknown();
        differSpoiled();
        countVersions();
        countStoring();
        countSpoiled();
        countMerges();
        countHistoryAndText();
        countBadValue();
        Check.end();
    }

    /** Version 0 is kept, 1 is hidden, 2 is gone, 3 is upon 1. */
    private static StepVersions ofEachKind() {
        StepVersions x = Check.chain("0=1,1=1", "0=2", "0=3");
        x.rebase(3, 1);
        x.drop(2);
        x.drop(1);
        return x;
    }

    // ---- promise 19

    private static void versionKind() {
        Check.about("19: 0 for whether it is kept, hidden or gone");
        StepVersions x = ofEachKind();
        int[] kinds = {0, 1, 2, 0};
        for (int version = 0; version < kinds.length; version++) {
            Check.due("version " + version, kinds[version], x.version(version, 0));
        }
        Check.about("19: no act");
        Check.due("states", 4, x.count(12));
    }

    private static void versionParents() {
        Check.about("19: 1 for its parent (NONE without one)");
        StepVersions x = ofEachKind();
        Check.due("of 0", StepVersions.NONE, x.version(0, 1));
        Check.due("of the hidden one", 0, x.version(1, 1));
        Check.due("of the one that is gone", 1, x.version(2, 1));
        Check.due("gone itself", 2, x.version(3, 1));
        Check.about("19: 2 for its second parent (NONE without one)");
        for (int version = 0; version <= 3; version++) {
            Check.due("of " + version, StepVersions.NONE, x.version(version, 2));
        }
        x.fork(0);
        Check.commit(x, 1, "2=2");
        x.merge(0, 1);
        Check.due("merged", 4, x.version(5, 2));
        Check.about("19: 1 for its parent, 0, too");
        x.undo();
        x.merge(1, 0);
        Check.due("merged the other way", 3, x.version(5, 2));
        Check.due("version 0 as the parent", 0, x.version(4, 1));
    }

    private static void versionBase() {
        Check.about("19: 3 for its base (NONE if it is stored whole, or gone)");
        StepVersions x = ofEachKind();
        Check.due("whole", StepVersions.NONE, x.version(0, 3));
        Check.due("by the version 0", 0, x.version(1, 3));
        Check.due("gone", StepVersions.NONE, x.version(2, 3));
        Check.due("by a hidden one", 1, x.version(3, 3));
    }

    private static void versionSteps() {
        Check.about("19: 4 for its steps (NONE if it is gone)");
        StepVersions x = ofEachKind();
        Check.due("whole", 0, x.version(0, 4));
        Check.due("hidden", 1, x.version(1, 4));
        Check.due("gone", StepVersions.NONE, x.version(2, 4));
        Check.due("by a hidden one", 2, x.version(3, 4));
        x = Check.chain("0=1");
        x.storeWhole(1);
        x.drop(0);
        Check.due("gone, that was whole", StepVersions.NONE, x.version(0, 4));
    }

    private static void versionCost() {
        Check.about("19: 5 for what its storing costs (0 if it is gone)");
        StepVersions x = ofEachKind();
        Check.due("whole", 12, x.version(0, 5));
        Check.due("hidden", 5, x.version(1, 5));
        Check.due("gone", 0, x.version(2, 5));
        Check.due("one differs", 3, x.version(3, 5));
        Check.about("Storing: as changes 1 + 2 * the number of fields that differ");
        x = Check.chain("0=1", "1=1,2=1,3=1,4=1,5=1,6=1,7=1,8=1,9=1,10=1,11=1", "0=0");
        x.rebase(2, 0);
        Check.due("all differ", 25, x.version(2, 5));
        Check.commit(x, 0, "1=0,2=0,3=0,4=0,5=0,6=0");
        Check.commit(x, 0, "7=0,8=0,9=0,10=0,11=0");
        x.rebase(5, 0);
        Check.due("none differs", 1, x.version(5, 5));
    }

    private static void versionBases() {
        Check.about("19: 6 for the versions that have it as their base");
        StepVersions x = ofEachKind();
        Check.due("of the version 0", 1, x.version(0, 6));
        Check.due("of the hidden one", 1, x.version(1, 6));
        Check.due("of the one that is gone", 0, x.version(2, 6));
        Check.due("of the last one", 0, x.version(3, 6));
        x.fork(0);
        Check.commit(x, 1, "0=4");
        x.rebase(3, 0);
        Check.due("the hidden one is gone, two are there", 2, x.version(0, 6));
        x = Check.chain("0=1", "0=2");
        x.drop(1);
        Check.due("a hidden one counts", 1, x.version(0, 6));
        x = Check.chain("0=1", "0=2");
        x.moveHead(0, 1);
        x.drop(2);
        Check.due("one that is gone does not count", 0, x.version(1, 6));
        Check.due("only the next one, not all behind it", 1, Check.row(3).version(0, 6));
    }

    private static void versionSpoiled() {
        Check.about("19: 7 for whether its data is spoiled (1, otherwise 0)");
        StepVersions x = ofEachKind();
        Check.due("not", 0, x.version(1, 7));
        x.spoil(1);
        Check.due("spoiled", 1, x.version(1, 7));
        Check.due("behind it", 0, x.version(3, 7));
        Check.due("before it", 0, x.version(0, 7));
        Check.about("Spoiled: the data of a present version can be spoiled");
        x.moveHead(0, 0);
        Check.due("both go", 2, x.drop(3));
        Check.due("gone", 0, x.version(1, 7));
        x.undo();
        Check.due("present again", 1, x.version(1, 7));
    }

    private static void versionUnknown() {
        Check.about("19: 0 to the number of versions so far less 1, whatever it is; UNKNOWN");
        for (int version : NO_VERSIONS) {
            for (int what = 0; what <= 7; what++) {
                Check.due("version(" + version + ", " + what + ")", StepVersions.UNKNOWN,
                        ofEachKind().version(version, what));
            }
        }
        StepVersions x = Check.row(39);
        Check.due("version(39, 0)", 0, x.version(39, 0));
        Check.due("version(40, 0)", StepVersions.UNKNOWN, x.version(40, 0));
        x.undo();
        Check.due("undone", StepVersions.UNKNOWN, x.version(39, 0));
        Check.about("19: UNKNOWN before BAD_VALUE");
        Check.due("version(40, 8)", StepVersions.UNKNOWN, x.version(40, 8));
        Check.due("version(-1, -1)", StepVersions.UNKNOWN, x.version(-1, -1));
    }

    private static void versionBadValue() {
        Check.about("19: BAD_VALUE");
        StepVersions x = ofEachKind();
        for (int what : new int[] {Integer.MIN_VALUE, -1, 8, 9, Integer.MAX_VALUE}) {
            for (int version = 0; version <= 3; version++) {
                Check.due("version(" + version + ", " + what + ")", StepVersions.BAD_VALUE,
                        x.version(version, what));
            }
        }
    }

    // ---- promise 21

    private static void wayReturns() {
        Check.about("21: returns the version there; a step on its way, from 0 (itself)");
        StepVersions x = ofEachKind();
        Check.due("itself", 3, x.way(3, 0));
        Check.due("a hidden one", 1, x.way(3, 1));
        Check.due("the whole one", 0, x.way(3, 2));
        Check.due("of the version 0", 0, x.way(0, 0));
        Check.due("of a hidden one", 0, x.way(1, 1));
        Check.about("21: also if it cannot be read");
        x.spoil(3);
        x.spoil(1);
        Check.due("spoiled", 0, x.way(3, 2));
        Check.about("21: no act");
        Check.due("states", 4, x.count(12));
        x = Check.row(4);
        x.setLimit(8);
        for (int version = 5; version <= 8; version++) {
            Check.commit(x, 0, "7=" + version);
        }
        for (int step = 0; step <= 8; step++) {
            Check.due("step " + step + " of 8", 8 - step, x.way(8, step));
        }
        Check.due("step 9 of 8", StepVersions.NONE, x.way(8, 9));
    }

    private static void wayUnknown() {
        Check.about("21: UNKNOWN if there is no such version");
        for (int version : NO_VERSIONS) {
            Check.due("way(" + version + ", 0)", StepVersions.UNKNOWN,
                    ofEachKind().way(version, 0));
        }
        Check.due("gone", StepVersions.UNKNOWN, ofEachKind().way(2, 0));
        Check.about("21: UNKNOWN before BAD_VALUE");
        Check.due("way(2, -1)", StepVersions.UNKNOWN, ofEachKind().way(2, -1));
        Check.due("way(4, -1)", StepVersions.UNKNOWN, ofEachKind().way(4, -1));
    }

    private static void wayBadValue() {
        Check.about("21: BAD_VALUE if step is negative");
        Check.due("way(3, -1)", StepVersions.BAD_VALUE, ofEachKind().way(3, -1));
        Check.due("way(0, -5)", StepVersions.BAD_VALUE, ofEachKind().way(0, -5));
        Check.due("the least", StepVersions.BAD_VALUE, ofEachKind().way(3, Integer.MIN_VALUE));
    }

    private static void wayNone() {
        Check.about("21: NONE if the way is not so long");
        StepVersions x = ofEachKind();
        for (int step : new int[] {3, 4, 8, 9, 39, 40, 41, Integer.MAX_VALUE}) {
            Check.due("way(3, " + step + ")", StepVersions.NONE, x.way(3, step));
        }
        Check.due("way(0, 1)", StepVersions.NONE, x.way(0, 1));
        Check.due("way(1, 2)", StepVersions.NONE, x.way(1, 2));
    }

    // ---- promise 22

    private static void differReturns() {
        Check.about("22: returns how many fields differ");
        StepVersions x = ofEachKind();
        Check.due("none: itself", 0, x.differ(3, 3));
        Check.due("a hidden one", 2, x.differ(0, 1));
        Check.due("the other way", 2, x.differ(1, 0));
        Check.due("one, the first field", 1, x.differ(3, 1));
        Check.commit(x, 0, "11=1");
        Check.due("one, the last field", 1, x.differ(3, 4));
        Check.commit(x, 0, "0=0,1=0,11=0");
        Check.due("none: the same fields", 0, x.differ(5, 0));
        Check.about("22: not how it is stored");
        x.storeWhole(5);
        Check.due("whole", 0, x.differ(0, 5));
        Check.about("22: no act");
        Check.due("states", 4, x.count(12));
        x = Check.chain("0=1,1=1,2=1,3=1,4=1,5=1,6=1,7=1,8=1,9=1,10=1,11=1");
        Check.due("all", 12, x.differ(0, 1));
    }

    private static void differUnknown() {
        Check.about("22: UNKNOWN if there is no such version or other");
        for (int version : NO_VERSIONS) {
            Check.due("differ(" + version + ", 0)", StepVersions.UNKNOWN,
                    ofEachKind().differ(version, 0));
            Check.due("differ(0, " + version + ")", StepVersions.UNKNOWN,
                    ofEachKind().differ(0, version));
            Check.due("both " + version, StepVersions.UNKNOWN,
                    ofEachKind().differ(version, version));
        }
        StepVersions x = ofEachKind();
        Check.due("gone", StepVersions.UNKNOWN, x.differ(2, 0));
        Check.due("other gone", StepVersions.UNKNOWN, x.differ(0, 2));
        Check.about("22: UNKNOWN before SPOILED");
        x.spoil(0);
        Check.due("gone", StepVersions.UNKNOWN, x.differ(2, 0));
        Check.due("other gone", StepVersions.UNKNOWN, x.differ(0, 2));
    }

    private static void differSpoiled() {
        Check.about("22: SPOILED if one of both cannot be read");
        StepVersions x = ofEachKind();
        x.spoil(1);
        Check.due("the first one", StepVersions.SPOILED, x.differ(1, 0));
        Check.due("the other one", StepVersions.SPOILED, x.differ(0, 1));
        Check.due("behind it", StepVersions.SPOILED, x.differ(3, 0));
        Check.due("other behind it", StepVersions.SPOILED, x.differ(0, 3));
        Check.due("both", StepVersions.SPOILED, x.differ(1, 3));
        Check.due("itself", StepVersions.SPOILED, x.differ(1, 1));
        Check.due("before it", 0, x.differ(0, 0));
    }

    // ---- promise 26

    private static void countVersions() {
        Check.about("26: 0 for versions so far, 1 to 3 for those that are kept, hidden, gone");
        StepVersions x = ofEachKind();
        Check.due("so far", 4, x.count(0));
        Check.due("kept", 2, x.count(1));
        Check.due("hidden", 1, x.count(2));
        Check.due("gone", 1, x.count(3));
        Check.about("26: 4 for heads");
        Check.due("one", 1, x.count(4));
        x.fork(0);
        x.fork(0);
        x.fork(0);
        Check.due("four", 4, x.count(4));
        Check.about("26: 5 for the limit");
        x.setLimit(2);
        Check.due("two", 2, x.count(5));
        Check.about("26: no act");
        Check.due("states", 4, x.count(12));
        x = Check.row(39);
        Check.due("forty so far", 40, x.count(0));
        Check.due("forty kept", 40, x.count(1));
    }

    private static void countStoring() {
        Check.about("26: 6 for the cost of all present versions");
        StepVersions x = ofEachKind();
        Check.due("cost, with the hidden one's", 12 + 5 + 3, x.count(6));
        Check.about("26: 7 for those that are stored whole");
        Check.due("the first one", 1, x.count(7));
        Check.about("26: 8 for the most steps of a present version");
        Check.due("two", 2, x.count(8));
        x.storeWhole(3);
        Check.about("26: none that is gone counts");
        Check.due("cost", 24, x.count(6));
        Check.due("whole", 2, x.count(7));
        Check.due("steps", 0, x.count(8));
        Check.about("26: 7, hidden ones, too");
        x = Check.chain("0=1");
        x.drop(0);
        Check.due("the version 0", 1, x.count(7));
        x.storeWhole(1);
        Check.due("only the last one", 1, x.count(7));
        Check.due("cost", 12, x.count(6));
    }

    private static void countSpoiled() {
        Check.about("26: 9 for present versions that cannot be read");
        StepVersions x = ofEachKind();
        Check.due("none", 0, x.count(9));
        x.spoil(1);
        Check.due("the hidden one and the one behind it", 2, x.count(9));
        x.spoil(0);
        Check.due("all but the one that is gone", 3, x.count(9));
    }

    private static void countMerges() {
        Check.about("26: 10 for merges so far, 11 for conflicts so far");
        StepVersions x = Check.chain("0=1");
        x.fork(0);
        Check.commit(x, 1, "0=2");
        Check.due("refused", StepVersions.BAD_VALUE, x.merge(0, 0));
        Check.due("no merge", 0, x.count(10));
        Check.due("one conflict", 1, x.merge(0, 1));
        Check.due("one merge", 1, x.count(10));
        Check.due("one conflict", 1, x.count(11));
        Check.due("none to merge", StepVersions.NONE, x.merge(0, 1));
        Check.due("one merge still", 1, x.count(10));
        Check.due("no conflict", 0, x.merge(1, 0));
        Check.due("two merges", 2, x.count(10));
        Check.due("one conflict still", 1, x.count(11));
        x.moveHead(0, 0);
        x.moveHead(1, 0);
        x.drop(4);
        x.drop(3);
        Check.due("also if what they made is gone", 2, x.count(10));
        Check.due("and the conflict", 1, x.count(11));
    }

    private static void countHistoryAndText() {
        Check.about("26: 12 for the states in the history");
        StepVersions x = new StepVersions();
        for (int states = 1; states <= 5; states++) {
            Check.commit(x, 0, "0=" + states);
            Check.due("states", Math.min(states, 4), x.count(12));
        }
        x.undo();
        Check.due("one less", 3, x.count(12));
        Check.about("26: 13 for the length of the text");
        Check.due("three", 3, x.count(13));
        x.clearText();
        Check.due("empty", 0, x.count(13));
        for (int length = 1; length <= 61; length++) {
            x.type(',');
        }
        Check.due("full", 60, x.count(13));
    }

    private static void countBadValue() {
        Check.about("26: BAD_VALUE");
        for (int what : new int[] {Integer.MIN_VALUE, -1, 14, 15, Integer.MAX_VALUE}) {
            Check.due("count(" + what + ")", StepVersions.BAD_VALUE,
                    new StepVersions().count(what));
        }
    }
}
