/** The boundary cases of promises 5 and 24: merge, common. */
public final class MergeEdgesTest {
    private static final int[] NO_HEADS = {Integer.MIN_VALUE, -1, 2, 3, 4, Integer.MAX_VALUE};

    public static void main(String[] args) {
        fields();
        conflicts();
        parents();
        isStored();
        ancestorsAreItselfToo();
        ancestorsOfTheGreatestNumber();
        ancestorsThatArePresent();
        ancestorsThatCanBeRead();
        unknown();
        badValue();
        spoiled();
        notPossible();
        full();
        none();
        aheadOfNone();
        common();
        commonUnknown();
        commonNone();
        Check.end();
    }

    /** Heads 0 and 1 at versions 2 and 3, which both come from version 1. */
    private static StepVersions forked(String common, String mine, String theirs) {
        StepVersions x = Check.chain(common);
        x.fork(1);
        Check.due("mine", 2, Check.commit(x, 0, mine));
        Check.due("theirs", 3, Check.commit(x, 1, theirs));
        return x;
    }

    private static StepVersions forked() {
        return forked("0=1", "1=2", "2=3");
    }

    // ---- what a merge makes

    private static void fields() {
        StepVersions x = forked("0=5,1=5,2=5,3=5", "0=7,1=6,3=6,10=1,11=1", "0=7,2=8,3=8,11=1");
        Check.due("conflicts", 1, x.merge(0, 1));
        Check.about("5: the value of both, if these are the same");
        Check.due("both as before", 0, x.read(4, 5));
        Check.due("both another one", 7, x.read(4, 0));
        Check.due("both in the last field", 1, x.read(4, 11));
        Check.about("5: the other one's if the first one's is that of the common ancestor");
        Check.due("the other one's", 8, x.read(4, 2));
        Check.about("5: the first one's if the other one's is that of the common ancestor");
        Check.due("the first one's", 6, x.read(4, 1));
        Check.due("the first one's, where 0 was", 1, x.read(4, 10));
        Check.about("5: otherwise (a conflict) the first one's");
        Check.due("conflict", 6, x.read(4, 3));
        Check.about("5: both versions stay");
        Check.due("mine", 5, x.read(2, 2));
        Check.due("theirs", 8, x.read(3, 3));
        x.undo();
        Check.about("5: the other way round");
        Check.due("conflicts", 1, x.merge(1, 0));
        Check.due("conflict", 8, x.read(4, 3));
        Check.due("the other one's", 6, x.read(4, 1));
        Check.due("the first one's", 8, x.read(4, 2));
    }

    private static void conflicts() {
        Check.about("5: returns how many conflicts there are");
        Check.due("none", 0, forked().merge(0, 1));
        StepVersions x = forked("0=1", "0=2,1=2,2=2,3=2,4=2", "0=3,1=3,2=3,3=3,4=3,5=3");
        Check.due("five", 5, x.merge(0, 1));
        Check.about("26: conflicts so far");
        Check.due("conflicts", 5, x.count(11));
        Check.due("merges", 1, x.count(10));
        x.moveHead(1, 3);
        x.moveHead(0, 2);
        Check.due("five more", 5, x.merge(1, 0));
        Check.due("conflicts", 10, x.count(11));
        Check.due("merges", 2, x.count(10));
        x = forked("0=1", "0=2,1=2,2=2,3=2,4=2,5=2", "0=3,1=3,2=3,3=3,4=3,5=3");
        Check.commit(x, 0, "6=2,7=2,8=2,9=2,10=2,11=2");
        Check.commit(x, 1, "6=3,7=3,8=3,9=3,10=3,11=3");
        Check.about("5: each field");
        Check.due("all in conflict", 12, x.merge(0, 1));
    }

    private static void parents() {
        StepVersions x = forked();
        x.merge(1, 0);
        Check.about("5: the parent of the new version is the version of the first head");
        Check.due("parent", 3, x.version(4, 1));
        Check.about("5: its second parent that of the other one");
        Check.due("second parent", 2, x.version(4, 2));
        Check.about("5: the first head is at it then");
        Check.due("first head", 4, x.head(1));
        Check.due("other head stays", 2, x.head(0));
        Check.about("5: this is an act");
        Check.due("states", 4, x.count(12));
        x.undo();
        Check.due("undone", 3, x.head(1));
        Check.about("Versions: the parents stay, whatever becomes of the versions");
        x = forked();
        x.merge(0, 1);
        x.storeWhole(4);
        x.moveHead(1, 4);
        x.drop(2);
        x.drop(3);
        Check.due("parent is gone", 2, x.version(2, 0));
        Check.due("second parent is gone", 2, x.version(3, 0));
        Check.due("parent", 2, x.version(4, 1));
        Check.due("second parent", 3, x.version(4, 2));
        x.moveHead(0, 0);
        x.moveHead(1, 0);
        Check.due("itself gone", 1, x.drop(4));
        Check.due("parent of one that is gone", 2, x.version(4, 1));
        Check.due("second parent of one that is gone", 3, x.version(4, 2));
    }

    private static void isStored() {
        Check.about("Storing: a merged version by its parent, if it costs less than 12");
        StepVersions x = forked("0=1", "1=1", "2=1,3=1,4=1,5=1,6=1");
        x.merge(0, 1);
        Check.due("5 differ: base", 2, x.version(4, 3));
        Check.due("5 differ: cost", 11, x.version(4, 5));
        x = forked("0=1", "1=1", "2=1,3=1,4=1,5=1,6=1,7=1");
        x.merge(0, 1);
        Check.due("6 differ: base", StepVersions.NONE, x.version(4, 3));
        Check.about("Storing: a merged version if its steps are not more than the limit");
        x = forked();
        x.setLimit(3);
        x.merge(0, 1);
        Check.due("3 steps with 3", 2, x.version(4, 3));
        x = forked();
        x.setLimit(2);
        x.merge(0, 1);
        Check.due("3 steps with 2", StepVersions.NONE, x.version(4, 3));
        Check.about("Storing: a base from which it differs in no field");
        x = forked("0=1", "0=2", "0=3");
        Check.due("conflict", 1, x.merge(0, 1));
        Check.due("a version as its parent", 4, x.head(0));
        Check.due("cost", 1, x.version(4, 5));
        Check.due("base", 2, x.version(4, 3));
    }

    // ---- the common ancestor

    private static void ancestorsAreItselfToo() {
        Check.about("5: an ancestor of a version is itself, its parents, theirs, and so on");
        StepVersions x = Check.row(6);
        x.fork(6);
        Check.due("itself", 6, x.common(0, 1));
        x.moveHead(1, 5);
        Check.due("its parent", 5, x.common(0, 1));
        x.moveHead(1, 0);
        Check.due("the first one", 0, x.common(0, 1));
        Check.due("the first one, the other way", 0, x.common(1, 0));
        Check.about("5: this is done also if the first one is an ancestor of the other one");
        Check.due("merge", 0, x.merge(1, 0));
        Check.due("a new version", 7, x.head(1));
        Check.due("with the other one's fields", 6, x.read(7, 7));
        Check.due("parent", 0, x.version(7, 1));
        Check.due("second parent", 6, x.version(7, 2));
        Check.due("merges", 1, x.count(10));
    }

    /** Heads 0 and 1 at 4 and 5, which are merges of 2 and 3 in both ways. */
    private static StepVersions crossed() {
        StepVersions x = forked("0=1", "0=2,1=2", "0=3,2=3");
        x.fork(3);
        Check.due("one way", 1, x.merge(0, 1));
        x.fork(2);
        Check.due("other way", 1, x.merge(1, 3));
        return x;
    }

    private static void ancestorsOfTheGreatestNumber() {
        Check.about("5: the common ancestor is that of the greatest number");
        StepVersions x = crossed();
        Check.due("of 0 to 3", 3, x.common(0, 1));
        Check.due("merge", 0, x.merge(0, 1));
        Check.due("the other one's is that of version 3, too", 2, x.read(6, 0));
        Check.about("5: of all that are ancestors of both, by second parents, too");
        x = forked();
        x.fork(3);
        x.merge(0, 1);
        Check.due("of 4 and 3", 3, x.common(0, 2));
        Check.commit(x, 2, "9=9");
        Check.due("of 4 and 5", 3, x.common(0, 2));
        Check.due("of 5 and 4", 3, x.common(2, 0));
        x.fork(2);
        Check.commit(x, 3, "8=8");
        Check.due("of 5 and 6, which have other parents", 1, x.common(2, 3));
    }

    private static void ancestorsThatArePresent() {
        Check.about("5: are present");
        StepVersions x = crossed();
        x.moveHead(2, 0);
        x.moveHead(3, 0);
        x.drop(3);
        Check.due("hidden, the base of 5", 3, x.common(0, 1));
        x.storeWhole(5);
        Check.due("gone", 2, x.version(3, 0));
        Check.due("next one", 2, x.common(0, 1));
        Check.due("merge by the next one", 0, x.merge(1, 0));
        Check.due("the first one's: theirs is that of version 2", 3, x.read(6, 0));
    }

    private static void ancestorsThatCanBeRead() {
        Check.about("5: and can be read");
        StepVersions x = crossed();
        x.storeWhole(4);
        x.storeWhole(5);
        x.spoil(3);
        Check.due("spoiled", 2, x.common(0, 1));
        x.spoil(2);
        Check.due("both spoiled", 1, x.common(0, 1));
        x = crossed();
        x.storeWhole(4);
        x.storeWhole(5);
        x.spoil(1);
        Check.due("behind a spoiled one", 0, x.common(0, 1));
        Check.due("conflicts by the version 0", 1, x.merge(0, 1));
    }

    // ---- what is refused

    private static void unknown() {
        Check.about("5: UNKNOWN if there is no such head");
        for (int head : NO_HEADS) {
            Check.refused("merge(" + head + ", 0)", StepVersions.UNKNOWN, MergeEdgesTest::forked,
                    x -> x.merge(head, 0));
            Check.refused("merge(0, " + head + ")", StepVersions.UNKNOWN, MergeEdgesTest::forked,
                    x -> x.merge(0, head));
            Check.about("5: UNKNOWN before BAD_VALUE");
            Check.due("both " + head, StepVersions.UNKNOWN, forked().merge(head, head));
        }
        Check.about("5: UNKNOWN before SPOILED");
        StepVersions x = forked();
        x.spoil(0);
        Check.due("merge(0, 2)", StepVersions.UNKNOWN, x.merge(0, 2));
    }

    private static void badValue() {
        Check.about("5: BAD_VALUE if both are the same");
        Check.refused("first", StepVersions.BAD_VALUE, MergeEdgesTest::forked, x -> x.merge(0, 0));
        Check.refused("last", StepVersions.BAD_VALUE, MergeEdgesTest::forked, x -> x.merge(1, 1));
        Check.about("5: BAD_VALUE before SPOILED");
        StepVersions x = forked();
        x.spoil(0);
        Check.due("merge(0, 0)", StepVersions.BAD_VALUE, x.merge(0, 0));
        Check.about("5: other heads at the same version are not the same head");
        x = forked();
        x.fork(2);
        Check.due("merge(0, 2)", StepVersions.NONE, x.merge(0, 2));
    }

    private static StepVersions spoiled(int version) {
        StepVersions x = forked();
        x.spoil(version);
        return x;
    }

    private static void spoiled() {
        Check.about("5: SPOILED if one of both cannot be read");
        Check.refused("the first one", StepVersions.SPOILED, () -> spoiled(2), x -> x.merge(0, 1));
        Check.refused("the other one", StepVersions.SPOILED, () -> spoiled(3), x -> x.merge(0, 1));
        Check.refused("by their base", StepVersions.SPOILED, () -> spoiled(1), x -> x.merge(0, 1));
        Check.about("5: SPOILED before NOT_POSSIBLE");
        StepVersions x = forked();
        x.storeWhole(2);
        x.spoil(0);
        Check.due("the other one, and no ancestor", StepVersions.SPOILED, x.merge(0, 1));
        Check.due("the first one, and no ancestor", StepVersions.SPOILED, x.merge(1, 0));
        Check.about("5: SPOILED before NONE");
        x = Check.chain("0=1", "0=2");
        x.fork(1);
        x.spoil(2);
        Check.due("an ancestor", StepVersions.SPOILED, x.merge(0, 1));
    }

    /** Heads 0 and 1 at 2 and 3, which are stored whole; their ancestors are gone. */
    private static StepVersions withoutAncestors() {
        StepVersions x = forked();
        x.storeWhole(2);
        x.storeWhole(3);
        x.drop(1);
        x.drop(0);
        return x;
    }

    private static void notPossible() {
        Check.about("5: NOT_POSSIBLE if there is no common ancestor");
        Check.refused("gone", StepVersions.NOT_POSSIBLE, MergeEdgesTest::withoutAncestors,
                x -> x.merge(0, 1));
        Check.refused("spoiled", StepVersions.NOT_POSSIBLE, () -> {
            StepVersions x = forked();
            x.storeWhole(2);
            x.storeWhole(3);
            x.spoil(0);
            return x;
        }, x -> x.merge(0, 1));
        Check.about("5: NOT_POSSIBLE before FULL");
        StepVersions x = withoutAncestors();
        fill(x);
        Check.due("merge", StepVersions.NOT_POSSIBLE, x.merge(0, 1));
    }

    /** Commits to the head 0 until there are 40 versions. */
    private static void fill(StepVersions x) {
        for (int version = x.count(0); version < 40; version++) {
            Check.due("commit", version, Check.commit(x, 0, "7=" + version));
        }
    }

    private static void full() {
        Check.about("5: FULL if there have been 40 versions");
        StepVersions x = Check.row(37);
        x.fork(0);
        Check.due("version 38", 38, Check.commit(x, 1, "0=1"));
        Check.due("room for one", 0, x.merge(0, 1));
        Check.due("the last one", 39, x.head(0));
        Check.due("and no more", StepVersions.FULL, x.merge(1, 0));
        Check.due("versions", 40, x.count(0));
        Check.due("merges", 1, x.count(10));
        Check.due("head", 38, x.head(1));
        Check.due("states", 4, x.count(12));
        Check.about("5: FULL before NONE");
        Check.due("an ancestor", StepVersions.FULL, x.merge(0, 1));
        Check.about("5: BAD_VALUE before FULL");
        Check.due("the same", StepVersions.BAD_VALUE, x.merge(0, 0));
        Check.about("5: SPOILED before FULL");
        x.spoil(38);
        Check.due("spoiled", StepVersions.SPOILED, x.merge(1, 0));
    }

    private static StepVersions secondHeadAt(int version) {
        StepVersions x = Check.chain("0=1", "0=2", "0=3");
        x.fork(version);
        return x;
    }

    private static void none() {
        Check.about("5: NONE if the version of the other head is an ancestor of the first one's");
        Check.refused("itself", StepVersions.NONE, () -> secondHeadAt(3), x -> x.merge(0, 1));
        Check.refused("its parent", StepVersions.NONE, () -> secondHeadAt(2), x -> x.merge(0, 1));
        Check.refused("the first one", StepVersions.NONE, () -> secondHeadAt(0),
                x -> x.merge(0, 1));
        StepVersions x = forked();
        x.merge(0, 1);
        Check.due("its second parent", StepVersions.NONE, x.merge(0, 1));
        x = secondHeadAt(1);
        x.storeWhole(3);
        x.drop(2);
        Check.due("between is gone", 2, x.version(2, 0));
        Check.due("behind one that is gone", StepVersions.NONE, x.merge(0, 1));
    }

    private static void aheadOfNone() {
        Check.about("5: no NONE if the merged fields are those of the first one");
        StepVersions x = forked("0=1", "1=2,0=1", "1=2,2=0");
        Check.due("merge", 0, x.merge(0, 1));
        Check.due("a new version", 4, x.head(0));
        Check.due("merges", 1, x.count(10));
    }

    // ---- promise 24

    private static void common() {
        Check.about("24: the common ancestor of their versions, as for merge()");
        StepVersions x = forked();
        Check.due("common", 1, x.common(0, 1));
        Check.due("of a head and itself", 2, x.common(0, 0));
        Check.due("of a head and itself", 3, x.common(1, 1));
        Check.about("24: no act");
        Check.due("states", 4, x.count(12));
        Check.about("24: also of versions that cannot be read");
        x.spoil(2);
        Check.due("the first one spoiled", 1, x.common(0, 1));
        Check.due("both the spoiled one", 1, x.common(0, 0));
        x.undo();
        Check.about("24: also if there is no room");
        fill(x);
        Check.due("full", 1, x.common(0, 1));
    }

    private static void commonUnknown() {
        Check.about("24: UNKNOWN if there is no such head");
        for (int head : NO_HEADS) {
            Check.due("common(" + head + ", 0)", StepVersions.UNKNOWN, forked().common(head, 0));
            Check.due("common(0, " + head + ")", StepVersions.UNKNOWN, forked().common(0, head));
            Check.due("both " + head, StepVersions.UNKNOWN, forked().common(head, head));
        }
        Check.about("24: UNKNOWN before NONE");
        Check.due("common(0, 2)", StepVersions.UNKNOWN, withoutAncestors().common(0, 2));
    }

    private static void commonNone() {
        Check.about("24: NONE if there is none");
        Check.refused("gone", StepVersions.NONE, MergeEdgesTest::withoutAncestors,
                x -> x.common(0, 1));
        Check.refused("spoiled", StepVersions.NONE, () -> spoiled(0), x -> x.common(0, 0));
    }
}
