/** Promises 1 to 4 and 25: a new object, commit, fork, moveHead, head. */
public final class HeadsTest {
    private static final String SIX_EDITS = "0=1,1=1,2=1,3=1,4=1,5=1";

    public static void main(String[] args) {
        newObject();
        commits();
        commitErrors();
        howCommitsAreStored();
        commitsUntilFull();
        forks();
        moves();
        Check.end();
    }

    private static void newObject() {
        StepVersions x = new StepVersions();
        int[] counts = {1, 1, 0, 0, 1, 4, 12, 1, 0, 0, 0, 0, 0, 0};
        for (int what = 0; what < counts.length; what++) {
            Check.due("new count " + what, counts[what], x.count(what));
        }
        for (int field = 0; field < 12; field++) {
            Check.due("new read " + field, 0, x.read(0, field));
        }
        int[] version = {0, StepVersions.NONE, StepVersions.NONE, StepVersions.NONE, 0, 12, 0, 0};
        for (int what = 0; what < version.length; what++) {
            Check.due("new version " + what, version[what], x.version(0, what));
        }
        Check.due("new head", 0, x.head(0));
        Check.due("new head 1", StepVersions.UNKNOWN, x.head(1));
        Check.due("new head -1", StepVersions.UNKNOWN, x.head(-1));
        Check.due("new undo", StepVersions.NONE, x.undo());
        Check.due("new restore", StepVersions.NONE, x.restore());
    }

    private static void commits() {
        StepVersions x = Check.chain("3=7,11=99", "3=8,0=10");
        Check.due("head", 2, x.head(0));
        Check.due("text stays", 8, x.count(13));
        Check.due("parent", 1, x.version(2, 1));
        Check.due("second parent", StepVersions.NONE, x.version(2, 2));
        Check.due("edited", 8, x.read(2, 3));
        Check.due("edited too", 10, x.read(2, 0));
        Check.due("as the parent", 99, x.read(2, 11));
        Check.due("parent as before", 7, x.read(1, 3));
        Check.due("states", 2, x.count(12));
        Check.due("later edit counts", 3, Check.commit(x, 0, "5=1,5=2,6=4,5=3"));
        Check.due("later edit", 3, x.read(3, 5));
        Check.due("later edit back", StepVersions.NONE, Check.commit(x, 0, "5=1,5=3"));
        Check.due("nothing differs", StepVersions.NONE, Check.commit(x, 0, "6=4"));
        Check.due("NONE makes no state", 3, x.count(12));
        Check.due("NONE makes no version", 4, x.count(0));
    }

    private static void commitErrors() {
        StepVersions x = Check.chain("0=1");
        Check.text(x, "12=1");
        Check.due("unknown before fault", StepVersions.UNKNOWN, x.commit(1));
        Check.due("unknown", StepVersions.UNKNOWN, x.commit(-1));
        Check.due("unknown max", StepVersions.UNKNOWN, x.commit(Integer.MAX_VALUE));
        x.spoil(1);
        Check.due("fault before spoiled", -101, x.commit(0));
        Check.due("spoiled before none", StepVersions.SPOILED, Check.commit(x, 0, "0=1"));
        Check.due("spoiled", StepVersions.SPOILED, Check.commit(x, 0, "0=2"));
        Check.due("states", 2, x.count(12));
        x.undo();
        x.spoil(0);
        Check.due("spoiled base", StepVersions.SPOILED, x.commit(0));
    }

    private static void howCommitsAreStored() {
        StepVersions x = Check.chain("0=1,1=1,2=1,3=1,4=1");
        Check.due("five differ: base", 0, x.version(1, 3));
        Check.due("five differ: cost", 11, x.version(1, 5));
        x = Check.chain(SIX_EDITS);
        Check.due("six differ: base", StepVersions.NONE, x.version(1, 3));
        Check.due("six differ: cost", 12, x.version(1, 5));
        x = Check.chain("0=1", "0=2", "0=3", "0=4", "0=5", "0=6");
        Check.due("four steps", 4, x.version(4, 4));
        Check.due("five steps are too many", 0, x.version(5, 4));
        Check.due("whole", StepVersions.NONE, x.version(5, 3));
        Check.due("one step again", 1, x.version(6, 4));
        x = new StepVersions();
        x.setLimit(1);
        Check.commit(x, 0, "0=1");
        Check.commit(x, 0, "0=2");
        Check.due("limit 1: by parent", 0, x.version(1, 3));
        Check.due("limit 1: whole", StepVersions.NONE, x.version(2, 3));
    }

    private static void commitsUntilFull() {
        StepVersions x = new StepVersions();
        for (int version = 1; version < 40; version++) {
            Check.due("commit " + version, version, Check.commit(x, 0, "7=" + version));
        }
        Check.due("full", StepVersions.FULL, Check.commit(x, 0, "7=1"));
        Check.due("full before none", StepVersions.FULL, Check.commit(x, 0, "7=39"));
        Check.due("fault before full", -100, Check.commit(x, 0, ""));
        Check.due("states", 4, x.count(12));
        Check.due("last", 39, x.read(39, 7));
        x.moveHead(0, 0);
        Check.due("dropped", 1, x.drop(39));
        Check.due("ever 40", StepVersions.FULL, Check.commit(x, 0, "7=1"));
        x.spoil(0);
        Check.due("spoiled before full", StepVersions.SPOILED, x.commit(0));
        for (int states = 3; states >= 0; states--) {
            Check.due("undo", states, x.undo());
        }
        Check.due("versions after undo", 39, x.count(0));
        Check.due("room after undo", 39, Check.commit(x, 0, "7=1"));
    }

    private static void forks() {
        StepVersions x = Check.chain("0=1", "0=2");
        Check.due("fork", 1, x.fork(1));
        Check.due("its head", 1, x.head(1));
        Check.due("commit there", 3, Check.commit(x, 1, "1=1"));
        Check.due("other head stays", 2, x.head(0));
        Check.due("its head moved", 3, x.head(1));
        Check.due("its parent", 1, x.version(3, 1));
        Check.due("hidden", 0, x.drop(1));
        Check.due("fork hidden", StepVersions.UNKNOWN, x.fork(1));
        Check.due("fork unknown", StepVersions.UNKNOWN, x.fork(4));
        Check.due("fork negative", StepVersions.UNKNOWN, x.fork(-1));
        Check.due("states", 4, x.count(12));
        Check.due("fork", 2, x.fork(0));
        Check.due("fork", 3, x.fork(0));
        Check.due("heads", 4, x.count(4));
        Check.due("full", StepVersions.FULL, x.fork(0));
        Check.due("unknown before full", StepVersions.UNKNOWN, x.fork(1));
        x.undo();
        Check.due("head undone", StepVersions.UNKNOWN, x.head(3));
        x.moveHead(1, 2);
        x.drop(3);
        Check.due("gone", 2, x.version(3, 0));
        Check.due("fork gone", StepVersions.UNKNOWN, x.fork(3));
        x.spoil(0);
        Check.due("fork spoiled", 3, x.fork(0));
    }

    private static void moves() {
        StepVersions x = Check.chain("0=1", "0=2");
        Check.due("move", 2, x.moveHead(0, 1));
        Check.due("head", 1, x.head(0));
        Check.due("again", StepVersions.NONE, x.moveHead(0, 1));
        Check.due("states", 3, x.count(12));
        Check.due("unknown head", StepVersions.UNKNOWN, x.moveHead(1, 0));
        Check.due("negative head", StepVersions.UNKNOWN, x.moveHead(-1, 0));
        Check.due("unknown version", StepVersions.UNKNOWN, x.moveHead(0, 3));
        Check.due("negative version", StepVersions.UNKNOWN, x.moveHead(0, -1));
        Check.due("back", 1, x.moveHead(0, 2));
        x.drop(1);
        Check.due("hidden", StepVersions.UNKNOWN, x.moveHead(0, 1));
        x.moveHead(0, 0);
        x.drop(2);
        Check.due("gone", StepVersions.UNKNOWN, x.moveHead(0, 2));
        Check.due("head stays", 0, x.head(0));
    }
}
