/** Promises 15 to 17: undo, keep, restore. */
public final class HistoryTest {
    public static void main(String[] args) {
        undoes();
        fourStates();
        errorsMakeNoState();
        snapshots();
        Check.end();
    }

    private static void undoes() {
        StepVersions x = Check.chain("0=1", "0=2");
        Check.due("undo", 1, x.undo());
        Check.due("head", 1, x.head(0));
        Check.due("versions", 2, x.count(0));
        Check.due("undo", 0, x.undo());
        Check.due("empty", StepVersions.NONE, x.undo());
        Check.due("versions", 1, x.count(0));
        Check.due("numbers are free again", 1, Check.commit(x, 0, "5=5"));
        Check.due("other fields", 0, x.read(1, 0));
        Check.due("states", 1, x.count(12));
    }

    private static void fourStates() {
        StepVersions x = Check.chain("0=1", "0=2", "0=3", "0=4", "0=5", "0=6");
        Check.due("four", 4, x.count(12));
        for (int states = 3; states >= 0; states--) {
            Check.due("undo", states, x.undo());
            Check.due("head", states + 2, x.head(0));
        }
        Check.due("the oldest are dropped", StepVersions.NONE, x.undo());
        Check.due("head", 2, x.head(0));
        Check.commit(x, 0, "0=7");
        x.fork(0);
        x.undo();
        x.fork(1);
        x.spoil(1);
        Check.due("mixed", 2, x.undo());
        Check.due("mixed", 1, x.undo());
        Check.due("mixed", 0, x.undo());
        Check.due("head", 2, x.head(0));
    }

    private static void errorsMakeNoState() {
        StepVersions x = Check.chain("0=1");
        String before = Check.told(x);
        x.commit(5);
        x.commit(0);
        x.fork(9);
        x.moveHead(0, 1);
        x.merge(0, 0);
        x.drop(1);
        x.storeWhole(0);
        x.rebase(0, 1);
        x.setLimit(4);
        x.optimize();
        x.spoil(7);
        x.mend(0, 1);
        x.restore();
        Check.due("states", 1, x.count(12));
        Check.same("after errors", before, Check.told(x));
        x.read(0, 0);
        x.version(0, 0);
        x.why(0, 0);
        x.way(0, 0);
        x.differ(0, 1);
        x.bestBase(1);
        x.common(0, 0);
        x.keep();
        Check.due("what tells is no act", 1, x.count(12));
        Check.same("after what tells", before, Check.told(x));
    }

    private static void snapshots() {
        StepVersions x = Check.chain("0=1", "0=2");
        Check.due("none", StepVersions.NONE, x.restore());
        Check.due("keep", 3, x.keep());
        Check.due("keep is no act", 2, x.count(12));
        String kept = Check.told(x);
        x.drop(0);
        Check.commit(x, 0, "0=3");
        x.setLimit(8);
        x.spoil(2);
        x.fork(1);
        String later = Check.told(x);
        Check.due("restore", 3, x.restore());
        Check.same("restored", kept, Check.told(x));
        Check.due("restore is an act", 4, x.count(12));
        Check.due("undo of restore", 3, x.undo());
        Check.same("undone", later, Check.told(x));
        Check.due("restore again", 3, x.restore());
        Check.same("the snapshot stays", kept, Check.told(x));
        Check.due("restore of the same is an act", 3, x.restore());
        Check.due("states", 4, x.count(12));
        x.spoil(0);
        Check.due("another snapshot", 3, x.keep());
        x.undo();
        Check.due("undo lets it be", 3, x.restore());
        Check.due("spoiled as kept", 1, x.version(0, 7));
        x.undo();
        x.moveHead(0, 0);
        x.drop(2);
        Check.due("present ones", 2, x.keep());
        Check.due("restored ones", 2, x.restore());
        x.moveHead(0, 1);
        x.drop(0);
        Check.due("hidden ones are present", 2, x.keep());
    }
}
