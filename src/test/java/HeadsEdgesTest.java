/** The boundary cases of promises 1 to 4 and 25: a new object, commit, fork, moveHead, head. */
public final class HeadsEdgesTest {
    private static final int[] NO_HEADS = {Integer.MIN_VALUE, -1, 2, 3, 4, Integer.MAX_VALUE};
    private static final int[] NO_VERSIONS =
            {Integer.MIN_VALUE, -5, -1, 3, 4, 39, 40, 41, Integer.MAX_VALUE};

    public static void main(String[] args) {
        newVersion();
        newHead();
        newLimitAndCounts();
        newText();
        newHistoryAndSnapshot();
        objectsOfTheirOwn();
        commits();
        commits40();
        forks();
        movesHeads();
        tellsHeads();
        Check.end();
    }

    // ---- promise 1

    private static void newVersion() {
        Check.about("1: at first there is the version 0, whose fields are all 0, without parents");
        StepVersions x = new StepVersions();
        Check.due("versions", 1, x.count(0));
        for (int field = 0; field < 12; field++) {
            Check.due("read " + field, 0, x.read(0, field));
        }
        Check.due("kept", 0, x.version(0, 0));
        Check.due("parent", StepVersions.NONE, x.version(0, 1));
        Check.due("second parent", StepVersions.NONE, x.version(0, 2));
        Check.due("no version 1", StepVersions.UNKNOWN, x.version(1, 0));
        Check.about("1: a present version is stored whole if it has no base");
        Check.due("base", StepVersions.NONE, x.version(0, 3));
        Check.due("steps", 0, x.version(0, 4));
        Check.due("cost", 12, x.version(0, 5));
        Check.due("bases of others", 0, x.version(0, 6));
        Check.due("not spoiled", 0, x.version(0, 7));
    }

    private static void newHead() {
        Check.about("1: at first there is the head 0, at the version 0");
        StepVersions x = new StepVersions();
        Check.due("heads", 1, x.count(4));
        Check.due("head 0", 0, x.head(0));
        Check.due("head 1", StepVersions.UNKNOWN, x.head(1));
    }

    private static void newLimitAndCounts() {
        Check.about("1: the limit, at first 4");
        StepVersions x = new StepVersions();
        Check.due("limit", 4, x.count(5));
        Check.about("1: nothing else is there at first");
        int[] counts = {1, 1, 0, 0, 1, 4, 12, 1, 0, 0, 0, 0, 0, 0};
        for (int what = 0; what < counts.length; what++) {
            Check.due("count " + what, counts[what], x.count(what));
        }
    }

    private static void newText() {
        Check.about("1: a text, empty at first");
        StepVersions x = new StepVersions();
        Check.due("length", 0, x.count(13));
        Check.due("commit", -100, x.commit(0));
        Check.due("first character", 1, x.type('1'));
    }

    private static void newHistoryAndSnapshot() {
        Check.about("1: the history is empty at first");
        StepVersions x = new StepVersions();
        Check.due("states", 0, x.count(12));
        Check.due("undo", StepVersions.NONE, x.undo());
        Check.about("1: one snapshot, empty at first");
        Check.due("restore", StepVersions.NONE, x.restore());
    }

    private static void objectsOfTheirOwn() {
        Check.about("1: creates a record of its own");
        StepVersions x = Check.chain("0=1");
        x.keep();
        StepVersions other = new StepVersions();
        Check.due("versions", 1, other.count(0));
        Check.due("text", 0, other.count(13));
        Check.due("undo", StepVersions.NONE, other.undo());
        Check.due("restore", StepVersions.NONE, other.restore());
        Check.commit(other, 0, "0=2");
        Check.due("the first one's field", 1, x.read(1, 0));
    }

    // ---- promise 2

    private static void commits() {
        commitMakesAVersion();
        commitUnknown();
        commitFault();
        commitSpoiled();
        commitNothing();
        commitWithinTheLimit();
        commitBelowTwelve();
    }

    private static void commitMakesAVersion() {
        Check.about("2: commits the edits of the text, which stays");
        StepVersions x = new StepVersions();
        Check.text(x, "0=99,11=1");
        Check.due("number", 1, x.commit(0));
        Check.due("length", 9, x.count(13));
        Check.due("the same edits once more", StepVersions.NONE, x.commit(0));
        Check.about("2: a new version, whose parent is the version of the head");
        x.fork(0);
        Check.due("number by head 1", 2, x.commit(1));
        Check.due("parent", 0, x.version(2, 1));
        Check.due("no second parent", StepVersions.NONE, x.version(2, 2));
        Check.about("2: has the fields of that with the edits");
        Check.due("first field", 99, x.read(2, 0));
        Check.due("last field", 1, x.read(2, 11));
        Check.due("without an edit", 0, x.read(2, 1));
        Check.due("the parent's stay", 0, x.read(0, 0));
        Check.due("number", 3, Check.commit(x, 1, "0=0"));
        Check.due("down to 0", 0, x.read(3, 0));
        Check.due("as its parent", 1, x.read(3, 11));
        Check.about("2: the head is at it then");
        Check.due("head 1", 3, x.head(1));
        Check.due("head 0 stays", 1, x.head(0));
        Check.about("2: this is an act");
        Check.due("states", 4, x.count(12));
    }

    private static StepVersions twoHeads() {
        StepVersions x = Check.chain("0=1", "0=2");
        x.fork(0);
        return x;
    }

    private static void commitUnknown() {
        Check.about("2: UNKNOWN if there is no such head");
        for (int head : NO_HEADS) {
            Check.refused("commit(" + head + ")", StepVersions.UNKNOWN, HeadsEdgesTest::twoHeads,
                    x -> x.commit(head));
        }
        Check.due("the last head is there", 3, Check.commit(twoHeads(), 1, "0=1"));
        Check.about("2: UNKNOWN before the fault");
        StepVersions x = new StepVersions();
        Check.due("commit(1)", StepVersions.UNKNOWN, x.commit(1));
    }

    private static StepVersions faulty() {
        StepVersions x = twoHeads();
        Check.text(x, "0=5,12=1");
        return x;
    }

    private static void commitFault() {
        Check.about("2: -100 minus the fault of the text, which is an error");
        Check.refused("commit of 0=5,12=1", -105, HeadsEdgesTest::faulty, x -> x.commit(0));
        Check.about("2: the fault before SPOILED");
        StepVersions x = faulty();
        x.spoil(2);
        Check.due("commit", -105, x.commit(0));
    }

    private static StepVersions spoiled(int version) {
        StepVersions x = twoHeads();
        x.spoil(version);
        Check.text(x, "0=5");
        return x;
    }

    private static void commitSpoiled() {
        Check.about("2: SPOILED if the version of the head cannot be read");
        Check.refused("itself", StepVersions.SPOILED, () -> spoiled(2), x -> x.commit(0));
        Check.refused("its base", StepVersions.SPOILED, () -> spoiled(1), x -> x.commit(0));
        Check.refused("the last on its way", StepVersions.SPOILED, () -> spoiled(0),
                x -> x.commit(0));
        Check.due("another version", 3, spoiled(2).commit(1));
        Check.about("2: SPOILED before NONE");
        StepVersions x = spoiled(2);
        Check.due("commit", StepVersions.SPOILED, Check.commit(x, 0, "0=2"));
    }

    private static void commitNothing() {
        Check.about("2: NONE if no field differs");
        Check.refused("the same value", StepVersions.NONE, () -> {
            StepVersions x = twoHeads();
            Check.text(x, "0=2");
            return x;
        }, x -> x.commit(0));
        StepVersions x = twoHeads();
        Check.due("0 where 0 is", StepVersions.NONE, Check.commit(x, 0, "11=0,5=0"));
        Check.due("there and back", StepVersions.NONE, Check.commit(x, 0, "0=7,0=2"));
        Check.due("one of two differs", 3, Check.commit(x, 0, "0=2,11=1"));
        Check.due("only the last field differs", 4, Check.commit(x, 0, "11=2"));
        Check.due("only the first field differs", 5, Check.commit(x, 0, "0=3"));
    }

    private static void commitWithinTheLimit() {
        Check.about("Storing: changes from its parent if its steps are not more than the limit");
        StepVersions x = Check.row(5);
        Check.due("4 steps", 3, x.version(4, 3));
        Check.due("5 steps", StepVersions.NONE, x.version(5, 3));
        Check.about("Storing: not more than the limit then");
        x.setLimit(5);
        Check.due("it stays whole", StepVersions.NONE, x.version(5, 3));
        x.moveHead(0, 4);
        Check.commit(x, 0, "7=6");
        Check.due("5 steps with 5", 4, x.version(6, 3));
        Check.commit(x, 0, "7=7");
        Check.due("6 steps with 5", StepVersions.NONE, x.version(7, 3));
        x = new StepVersions();
        x.setLimit(1);
        Check.commit(x, 0, "7=1");
        Check.due("1 step with 1", 0, x.version(1, 3));
        Check.commit(x, 0, "7=2");
        Check.due("2 steps with 1", StepVersions.NONE, x.version(2, 3));
        x = new StepVersions();
        x.setLimit(8);
        for (int version = 1; version <= 9; version++) {
            Check.commit(x, 0, "7=" + version);
        }
        Check.due("8 steps with 8", 7, x.version(8, 3));
        Check.due("9 steps with 8", StepVersions.NONE, x.version(9, 3));
    }

    private static void commitBelowTwelve() {
        Check.about("Storing: and this costs less than 12");
        StepVersions x = Check.chain("0=1,2=1,4=1,6=1,8=1", "1=1,3=1,5=1,7=1,9=1,11=1");
        Check.due("5 differ: base", 0, x.version(1, 3));
        Check.due("5 differ: cost", 11, x.version(1, 5));
        Check.due("6 differ: base", StepVersions.NONE, x.version(2, 3));
        Check.due("6 differ: cost", 12, x.version(2, 5));
        Check.about("Storing: the fields that differ, not the edits");
        Check.due("version", 3, Check.commit(x, 0, "0=1,1=1,2=1,3=1,4=1,5=1,6=2"));
        Check.due("7 edits, 1 differs: cost", 3, x.version(3, 5));
    }

    private static void commits40() {
        Check.about("2: FULL if there have been 40");
        StepVersions x = Check.row(38);
        Check.due("the last one", 39, Check.commit(x, 0, "7=39"));
        Check.due("versions", 40, x.count(0));
        Check.due("its field", 39, x.read(39, 7));
        Check.due("one more", StepVersions.FULL, Check.commit(x, 0, "7=40"));
        Check.due("versions then", 40, x.count(0));
        Check.due("head then", 39, x.head(0));
        Check.due("states", 4, x.count(12));
        Check.about("2: FULL before NONE");
        Check.due("no field differs", StepVersions.FULL, Check.commit(x, 0, "7=39"));
        Check.about("2: the fault before FULL");
        Check.due("fault", -102, Check.commit(x, 0, "7="));
        Check.about("2: UNKNOWN before FULL");
        Check.due("unknown", StepVersions.UNKNOWN, x.commit(1));
        Check.about("2: SPOILED before FULL");
        x.spoil(39);
        Check.due("spoiled", StepVersions.SPOILED, Check.commit(x, 0, "7=1"));
        Check.about("Versions: at most 40 ever");
        x.moveHead(0, 0);
        Check.due("one is gone", 1, x.drop(39));
        Check.due("full nevertheless", StepVersions.FULL, Check.commit(x, 0, "7=1"));
        Check.about("History: how many have been is part of the state");
        x.undo();
        x.undo();
        x.undo();
        Check.due("versions", 40, x.count(0));
        x.undo();
        Check.due("versions after undo", 39, x.count(0));
        Check.due("room for one", 39, Check.commit(x, 0, "7=1"));
        Check.due("and no more", StepVersions.FULL, Check.commit(x, 0, "7=2"));
    }

    // ---- promise 3

    private static void forks() {
        forkNumbers();
        forkUnknown();
        forkFull();
    }

    private static void forkNumbers() {
        Check.about("3: makes a head at a kept version; returns its number");
        StepVersions x = Check.chain("0=1", "0=2");
        Check.due("at an earlier one", 1, x.fork(1));
        Check.due("at the version 0", 2, x.fork(0));
        Check.due("at that of another head", 3, x.fork(2));
        Check.due("head 1", 1, x.head(1));
        Check.due("head 2", 0, x.head(2));
        Check.due("head 3", 2, x.head(3));
        Check.due("head 0", 2, x.head(0));
        Check.about("3: this is an act");
        Check.due("states", 4, x.count(12));
        x.undo();
        Check.due("undone", StepVersions.UNKNOWN, x.head(3));
        Check.due("heads", 3, x.count(4));
        x = Check.chain("0=1");
        x.spoil(1);
        Check.due("at one that cannot be read", 1, x.fork(1));
    }

    /** Versions 0 to 2, of which 1 is hidden. */
    private static StepVersions hidden() {
        StepVersions x = Check.chain("0=1", "0=2");
        x.drop(1);
        return x;
    }

    /** Versions 0 to 2, of which 2 is gone. */
    private static StepVersions gone() {
        StepVersions x = Check.chain("0=1", "0=2");
        x.moveHead(0, 1);
        x.drop(2);
        return x;
    }

    private static void forkUnknown() {
        Check.about("3: UNKNOWN if there is no such version");
        for (int version : NO_VERSIONS) {
            Check.refused("fork(" + version + ")", StepVersions.UNKNOWN,
                    () -> Check.chain("0=1", "0=2"), x -> x.fork(version));
        }
        Check.refused("gone", StepVersions.UNKNOWN, HeadsEdgesTest::gone, x -> x.fork(2));
        Check.about("3: UNKNOWN also if it is hidden");
        Check.refused("hidden", StepVersions.UNKNOWN, HeadsEdgesTest::hidden, x -> x.fork(1));
    }

    private static StepVersions fourHeads() {
        StepVersions x = hidden();
        x.fork(0);
        x.fork(0);
        Check.due("the last head", 3, x.fork(0));
        return x;
    }

    private static void forkFull() {
        Check.about("3: FULL if there are 4");
        Check.refused("fork(0)", StepVersions.FULL, HeadsEdgesTest::fourHeads, x -> x.fork(0));
        Check.about("3: UNKNOWN before FULL");
        Check.due("hidden", StepVersions.UNKNOWN, fourHeads().fork(1));
        Check.due("no version", StepVersions.UNKNOWN, fourHeads().fork(3));
        Check.about("History: the heads are part of the state");
        StepVersions x = fourHeads();
        x.undo();
        Check.due("room for one", 3, x.fork(2));
        Check.due("and no more", StepVersions.FULL, x.fork(2));
    }

    // ---- promise 4

    private static void movesHeads() {
        moveReturnsWhereItWas();
        moveUnknown();
        moveNothing();
    }

    private static void moveReturnsWhereItWas() {
        Check.about("4: returns the version at which it was");
        StepVersions x = twoHeads();
        Check.due("head 0", 2, x.moveHead(0, 1));
        Check.due("head 0 back", 1, x.moveHead(0, 2));
        Check.due("head 1", 0, x.moveHead(1, 1));
        Check.about("4: lets a head be at another version");
        Check.due("head 0 is there", 2, x.head(0));
        Check.due("head 1 is there", 1, x.head(1));
        Check.about("4: this is an act");
        Check.due("states", 4, x.count(12));
        x.undo();
        Check.due("undone", 0, x.head(1));
        Check.about("4: to where another head is");
        Check.due("head 1 to head 0", 0, x.moveHead(1, 2));
        Check.due("both there", 2, x.head(0));
        Check.about("4: to one that cannot be read");
        x.spoil(1);
        Check.due("spoiled", 2, x.moveHead(1, 1));
    }

    private static void moveUnknown() {
        Check.about("4: UNKNOWN if there is no such head");
        for (int head : NO_HEADS) {
            Check.refused("moveHead(" + head + ", 1)", StepVersions.UNKNOWN,
                    HeadsEdgesTest::twoHeads, x -> x.moveHead(head, 1));
        }
        Check.about("4: UNKNOWN if there is no such version");
        for (int version : NO_VERSIONS) {
            Check.refused("moveHead(0, " + version + ")", StepVersions.UNKNOWN,
                    HeadsEdgesTest::twoHeads, x -> x.moveHead(0, version));
        }
        Check.refused("gone", StepVersions.UNKNOWN, HeadsEdgesTest::gone, x -> x.moveHead(0, 2));
        Check.about("4: UNKNOWN also if it is hidden");
        Check.refused("hidden", StepVersions.UNKNOWN, HeadsEdgesTest::hidden,
                x -> x.moveHead(0, 1));
        Check.about("4: UNKNOWN of the head before NONE");
        Check.due("no head", StepVersions.UNKNOWN, twoHeads().moveHead(2, 2));
        for (int both : new int[] {-7, -6, -5, -4, -3, -2, -1, 3, 4}) {
            Check.due("neither, " + both, StepVersions.UNKNOWN, twoHeads().moveHead(both, both));
        }
    }

    private static void moveNothing() {
        Check.about("4: NONE if it is there already");
        Check.refused("head 0", StepVersions.NONE, HeadsEdgesTest::twoHeads, x -> x.moveHead(0, 2));
        Check.refused("head 1", StepVersions.NONE, HeadsEdgesTest::twoHeads, x -> x.moveHead(1, 0));
    }

    // ---- promise 25

    private static void tellsHeads() {
        Check.about("25: returns the version at which it is");
        StepVersions x = fourHeads();
        x.moveHead(3, 2);
        Check.due("first", 2, x.head(0));
        Check.due("last", 2, x.head(3));
        Check.due("between", 0, x.head(1));
        Check.about("25: UNKNOWN if there is no such head");
        for (int head : NO_HEADS) {
            Check.due("head(" + head + ")", StepVersions.UNKNOWN, twoHeads().head(head));
        }
        Check.due("a fifth one", StepVersions.UNKNOWN, x.head(4));
        Check.due("before the first one", StepVersions.UNKNOWN, x.head(-1));
        Check.about("25: no act");
        Check.due("states", 4, x.count(12));
    }
}
