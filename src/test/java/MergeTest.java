/** Promises 5 and 24: merge, common. */
public final class MergeTest {
    public static void main(String[] args) {
        merges();
        mergeIsStoredByItsFirstParent();
        ofAncestors();
        ancestorsThatAreNotPresentOrSpoiled();
        secondParentsCount();
        errors();
        full();
        commonErrors();
        Check.end();
    }

    /** Heads 0 and 1 at versions 2 and 3, which both come from version 1. */
    private static StepVersions forked(String common, String mine, String theirs) {
        StepVersions x = Check.chain(common);
        x.fork(1);
        Check.due("mine", 2, Check.commit(x, 0, mine));
        Check.due("theirs", 3, Check.commit(x, 1, theirs));
        return x;
    }

    private static void merges() {
        StepVersions x = forked("0=1,1=1,2=1,3=1,4=1", "1=2,3=2,4=2", "2=3,3=2,4=3");
        Check.due("common", 1, x.common(0, 1));
        Check.due("conflicts", 1, x.merge(0, 1));
        Check.due("head", 4, x.head(0));
        Check.due("other head", 3, x.head(1));
        Check.due("parent", 2, x.version(4, 1));
        Check.due("second parent", 3, x.version(4, 2));
        int[] fields = {1, 2, 3, 2, 2, 0};
        for (int field = 0; field < fields.length; field++) {
            Check.due("merged " + field, fields[field], x.read(4, field));
        }
        Check.due("merges", 1, x.count(10));
        Check.due("conflicts so far", 1, x.count(11));
        Check.due("states", 4, x.count(12));
        Check.due("other way", 0, x.merge(1, 0));
        Check.due("parent of that", 3, x.version(5, 1));
        Check.due("second parent of that", 4, x.version(5, 2));
        Check.due("theirs taken, as mine was merged", 2, x.read(5, 4));
        Check.due("merges", 2, x.count(10));
        x.undo();
        Check.due("merges undone", 1, x.count(10));
        Check.due("head undone", 3, x.head(1));
        x.undo();
        Check.due("conflicts undone", 0, x.count(11));
        Check.due("many conflicts", 2, merged(forked("0=1", "0=2,1=2,2=5", "0=3,1=3,2=5")));
    }

    private static int merged(StepVersions x) {
        return x.merge(0, 1);
    }

    private static void mergeIsStoredByItsFirstParent() {
        StepVersions x = forked("0=1", "1=1", "2=1,3=1,4=1,5=1,6=1");
        Check.due("merge", 0, x.merge(0, 1));
        Check.due("base", 2, x.version(4, 3));
        Check.due("cost", 11, x.version(4, 5));
        x = forked("0=1", "1=1", "2=1,3=1,4=1,5=1,6=1,7=1");
        Check.due("merge", 0, x.merge(0, 1));
        Check.due("whole", StepVersions.NONE, x.version(4, 3));
        x = forked("0=1", "1=1", "1=2");
        Check.due("conflict", 1, x.merge(0, 1));
        Check.due("nothing differs: base", 2, x.version(4, 3));
        Check.due("nothing differs: cost", 1, x.version(4, 5));
        x = forked("0=1", "1=1", "1=2");
        x.setLimit(2);
        x.merge(0, 1);
        Check.due("steps beyond the limit", StepVersions.NONE, x.version(4, 3));
    }

    private static void ofAncestors() {
        StepVersions x = Check.chain("0=1");
        x.fork(1);
        Check.due("same version", StepVersions.NONE, x.merge(0, 1));
        Check.commit(x, 0, "1=1");
        Check.due("theirs is an ancestor", StepVersions.NONE, x.merge(0, 1));
        Check.due("common", 1, x.common(1, 0));
        Check.due("states", 3, x.count(12));
        Check.due("mine is an ancestor", 0, x.merge(1, 0));
        Check.due("a version nevertheless", 3, x.head(1));
        Check.due("as theirs", 1, x.read(3, 1));
        Check.due("common", 2, x.common(0, 1));
        Check.due("theirs is a second parent", StepVersions.NONE, x.merge(1, 0));
    }

    private static void ancestorsThatAreNotPresentOrSpoiled() {
        StepVersions x = forked("0=1", "0=2", "0=3");
        x.drop(1);
        Check.due("hidden one counts", 1, x.common(0, 1));
        x.storeWhole(2);
        x.storeWhole(3);
        Check.due("gone", 2, x.version(1, 0));
        Check.due("next one", 0, x.common(0, 1));
        Check.due("conflict", 1, x.merge(0, 1));
        x.undo();
        x.drop(0);
        Check.due("none", StepVersions.NONE, x.common(0, 1));
        Check.due("not possible", StepVersions.NOT_POSSIBLE, x.merge(0, 1));
        x.undo();
        x.spoil(0);
        Check.due("spoiled", StepVersions.NONE, x.common(0, 1));
        Check.due("not possible", StepVersions.NOT_POSSIBLE, x.merge(0, 1));
        x = Check.chain("0=1");
        Check.due("itself", 1, x.common(0, 0));
        x.spoil(1);
        Check.due("itself spoiled", 0, x.common(0, 0));
        x.spoil(0);
        Check.due("all spoiled", StepVersions.NONE, x.common(0, 0));
    }

    private static void secondParentsCount() {
        StepVersions x = forked("0=1", "1=2", "2=3");
        x.merge(0, 1);
        Check.due("fork", 2, x.fork(3));
        Check.commit(x, 2, "5=5");
        Check.due("by the second parent", 3, x.common(0, 2));
        Check.due("by the second parent", 3, x.common(2, 0));
        Check.due("merge", 0, x.merge(2, 0));
        Check.due("theirs", 2, x.read(6, 1));
        Check.due("mine", 5, x.read(6, 5));
    }

    private static void errors() {
        StepVersions x = forked("0=1", "1=2", "2=3");
        Check.due("unknown", StepVersions.UNKNOWN, x.merge(2, 0));
        Check.due("unknown", StepVersions.UNKNOWN, x.merge(0, 2));
        Check.due("unknown before bad", StepVersions.UNKNOWN, x.merge(2, 2));
        Check.due("negative", StepVersions.UNKNOWN, x.merge(-1, 0));
        Check.due("negative", StepVersions.UNKNOWN, x.merge(0, -1));
        Check.due("same head", StepVersions.BAD_VALUE, x.merge(1, 1));
        x.spoil(2);
        Check.due("bad before spoiled", StepVersions.BAD_VALUE, x.merge(0, 0));
        Check.due("mine spoiled", StepVersions.SPOILED, x.merge(0, 1));
        Check.due("theirs spoiled", StepVersions.SPOILED, x.merge(1, 0));
        x.spoil(0);
        Check.due("spoiled before not possible", StepVersions.SPOILED, x.merge(0, 1));
        Check.due("merges", 0, x.count(10));
        Check.due("versions", 4, x.count(0));
    }

    private static void full() {
        StepVersions x = new StepVersions();
        x.fork(0);
        x.fork(0);
        Check.commit(x, 1, "1=1");
        for (int version = 2; version < 40; version++) {
            Check.due("commit", version, Check.commit(x, 0, "0=" + version));
        }
        Check.due("full", StepVersions.FULL, x.merge(0, 1));
        Check.due("full before none", StepVersions.FULL, x.merge(0, 2));
        x.spoil(0);
        x.moveHead(0, 35);
        Check.due("readable", 35, x.read(35, 0));
        Check.due("spoiled", StepVersions.SPOILED, x.merge(0, 1));
        x.undo();
        x.undo();
        x.storeWhole(1);
        x.spoil(0);
        Check.due("versions", 40, x.count(0));
        Check.due("not possible before full", StepVersions.NOT_POSSIBLE, x.merge(0, 1));
    }

    private static void commonErrors() {
        StepVersions x = forked("0=1", "1=2", "2=3");
        Check.due("unknown", StepVersions.UNKNOWN, x.common(0, 2));
        Check.due("unknown", StepVersions.UNKNOWN, x.common(2, 0));
        Check.due("unknown", StepVersions.UNKNOWN, x.common(-1, 0));
        Check.due("unknown", StepVersions.UNKNOWN, x.common(0, -1));
        Check.due("common makes no state", 4, x.count(12));
    }
}
