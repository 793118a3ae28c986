/** The boundary cases of promises 15 to 17, and of "History" and "Errors". */
public final class HistoryEdgesTest {
    private static final int ACTS = 13;

    public static void main(String[] args) {
        undoReturns();
        undoNone();
        atMostFour();
        eachActRecords();
        whatIsNoActRecordsNothing();
        errorsInAFullHistory();
        keepReturns();
        keepTakesAll();
        restoreReturns();
        restoreNone();
        restoreIsAnAct();
        stateIsEverythingElse();
        stateOfTheVersions();
        numbersThatAreUsedAgain();
        Check.end();
    }

    // ---- promise 15

    private static void undoReturns() {
        Check.about("15: returns the number of states that are left");
        StepVersions x = Check.row(4);
        for (int left = 3; left >= 0; left--) {
            Check.due("undo", left, x.undo());
            Check.due("states", left, x.count(12));
            Check.about("15: removes and restores the latest state");
            Check.due("head", left, x.head(0));
            Check.due("versions", left + 1, x.count(0));
        }
        Check.about("15: undo itself records nothing");
        Check.commit(x, 0, "0=1");
        x.undo();
        Check.due("states", 0, x.count(12));
        Check.due("once more", StepVersions.NONE, x.undo());
    }

    private static void undoNone() {
        Check.about("15: NONE if the history is empty");
        Check.refused("new", StepVersions.NONE, StepVersions::new, StepVersions::undo);
        Check.refused("used up", StepVersions.NONE, () -> {
            StepVersions x = Check.row(1);
            x.undo();
            return x;
        }, StepVersions::undo);
        Check.refused("after five acts and four undos", StepVersions.NONE, () -> {
            StepVersions x = Check.row(5);
            for (int undo = 0; undo < 4; undo++) {
                x.undo();
            }
            return x;
        }, StepVersions::undo);
        Check.refused("keep() is no act", StepVersions.NONE, () -> {
            StepVersions x = new StepVersions();
            x.keep();
            return x;
        }, StepVersions::undo);
    }

    private static void atMostFour() {
        Check.about("History: at most 4 states; when one more is recorded, the oldest is dropped");
        for (int acts = 3; acts <= 9; acts++) {
            StepVersions x = Check.row(acts);
            int kept = Math.min(acts, 4);
            Check.due("states after " + acts, kept, x.count(12));
            for (int left = kept - 1; left >= 0; left--) {
                Check.due("undo after " + acts, left, x.undo());
            }
            Check.due("empty after " + acts, StepVersions.NONE, x.undo());
            Check.due("head after " + acts, acts - kept, x.head(0));
        }
        Check.about("History: acts and undos by turns");
        StepVersions x = Check.row(5);
        x.undo();
        x.undo();
        x.fork(0);
        x.fork(1);
        x.fork(2);
        Check.due("states", 4, x.count(12));
        Check.due("undo", 3, x.undo());
        Check.due("heads", 3, x.count(4));
        Check.due("undo", 2, x.undo());
        Check.due("undo", 1, x.undo());
        Check.due("heads", 1, x.count(4));
        Check.due("undo of the third commit", 0, x.undo());
        Check.due("head", 2, x.head(0));
        Check.due("empty", StepVersions.NONE, x.undo());
    }

    /** Versions 1 to 4, two heads, one hidden version, one that is spoiled, and a snapshot. */
    private static StepVersions mixed() {
        StepVersions x = Check.chain("0=1,1=1", "0=2", "0=0,1=0,5=5");
        x.fork(1);
        Check.commit(x, 1, "0=3,2=2");
        x.drop(2);
        x.keep();
        return x;
    }

    private static int act(StepVersions x, int act) {
        switch (act) {
            case 0:
                return Check.commit(x, 0, "6=6");
            case 1:
                return x.fork(0);
            case 2:
                return x.moveHead(0, 0);
            case 3:
                return x.merge(0, 1);
            case 4:
                return x.drop(1);
            case 5:
                return x.drop(0);
            case 6:
                return x.storeWhole(3);
            case 7:
                return x.rebase(3, 0);
            case 8:
                return x.setLimit(7);
            case 9:
                return x.optimize();
            case 10:
                return x.spoil(1);
            case 11:
                return x.restore();
            default:
                return mendTheFirst(x);
        }
    }

    private static int mendTheFirst(StepVersions x) {
        x.storeWhole(3);
        x.spoil(1);
        Check.text(x, "0=1,1=1,5=0");
        return x.mend(1, 3);
    }

    private static void eachActRecords() {
        Check.about("History: each act, without an error and not NONE, records the state before");
        String before = Check.told(mixed());
        for (int act = 0; act < ACTS; act++) {
            StepVersions x = mixed();
            x.undo();
            x.undo();
            x.undo();
            int states = x.count(12);
            x.restore();
            Check.due("states before act " + act, states + 1, x.count(12));
            Check.due("act " + act, 1, act(x, act) >= 0 ? 1 : 0);
            int acts = act == ACTS - 1 ? 3 : 1;
            Check.due("states after act " + act, Math.min(4, states + 1 + acts), x.count(12));
            for (int undo = 0; undo < acts; undo++) {
                x.undo();
            }
            Check.same("undo of act " + act, before, Check.told(x));
        }
    }

    private static void whatIsNoActRecordsNothing() {
        Check.about("History: only what is described as an act records a state");
        StepVersions x = Check.chain("0=1");
        String before = Check.told(x);
        x.type('1');
        x.clearText();
        x.keep();
        x.read(0, 0);
        x.version(0, 0);
        x.why(0, 0);
        x.way(0, 0);
        x.differ(0, 1);
        x.bestBase(1);
        x.common(0, 0);
        x.head(0);
        x.count(0);
        Check.due("states", 1, x.count(12));
        Check.same("state", before, Check.told(x));
    }

    private static void errorsInAFullHistory() {
        Check.about("Errors: a call that returns an error or NONE changes nothing");
        StepVersions x = Check.row(6);
        x.commit(1);
        x.commit(0);
        x.fork(7);
        x.moveHead(0, 6);
        x.merge(0, 0);
        x.drop(6);
        x.storeWhole(0);
        x.rebase(6, 5);
        x.setLimit(4);
        x.setLimit(9);
        x.spoil(7);
        x.mend(6, 5);
        x.restore();
        Check.text(x, "");
        x.commit(0);
        x.mend(6, 5);
        for (int left = 3; left >= 0; left--) {
            Check.due("undo", left, x.undo());
            Check.due("head", left + 2, x.head(0));
        }
    }

    // ---- promise 16

    private static void keepReturns() {
        Check.about("16: returns the number of present versions");
        StepVersions x = new StepVersions();
        Check.due("only the version 0", 1, x.keep());
        x = Check.row(2);
        Check.due("three", 3, x.keep());
        x.drop(1);
        Check.due("hidden ones are present", 3, x.keep());
        x.storeWhole(2);
        Check.due("gone ones are not", 2, x.keep());
        x.spoil(2);
        Check.due("spoiled ones are present", 2, x.keep());
        Check.about("16: no act");
        Check.due("states", 4, x.count(12));
        x.undo();
        x.undo();
        x.undo();
        x.undo();
        Check.due("states", 0, x.count(12));
        x.keep();
        Check.due("no state by keep()", 0, x.count(12));
    }

    private static void keepTakesAll() {
        Check.about("16: takes a snapshot of the state, in place of the one that was");
        StepVersions x = Check.row(1);
        x.keep();
        Check.commit(x, 0, "0=1");
        x.keep();
        Check.commit(x, 0, "0=2");
        x.restore();
        Check.due("the later one", 2, x.head(0));
        Check.about("16: what comes later does not change it");
        x = Check.row(2);
        x.keep();
        String kept = Check.told(x);
        x.drop(1);
        x.spoil(0);
        x.undo();
        x.rebase(2, 0);
        x.setLimit(8);
        x.fork(0);
        Check.commit(x, 0, "7=50");
        x.restore();
        Check.same("restored", kept, Check.told(x));
    }

    // ---- promise 17

    private static void restoreReturns() {
        Check.about("17: returns the number of present versions then");
        StepVersions x = Check.row(2);
        x.keep();
        Check.commit(x, 0, "7=3");
        Check.due("three", 3, x.restore());
        Check.due("versions", 3, x.count(0));
        x.drop(1);
        x.keep();
        x.undo();
        Check.due("hidden ones are present", 3, x.restore());
        x.storeWhole(2);
        x.keep();
        x.undo();
        Check.due("gone ones are not", 2, x.restore());
        Check.about("17: restores the state of the snapshot, which stays");
        x.spoil(2);
        Check.due("again", 2, x.restore());
        Check.due("not spoiled", 0, x.version(2, 7));
        Check.due("and again", 2, x.restore());
    }

    private static void restoreNone() {
        Check.about("17: NONE if there is no snapshot");
        Check.refused("new", StepVersions.NONE, StepVersions::new, StepVersions::restore);
        Check.refused("after acts", StepVersions.NONE, () -> Check.row(5), StepVersions::restore);
    }

    private static void restoreIsAnAct() {
        Check.about("17: this is an act");
        StepVersions x = new StepVersions();
        x.keep();
        Check.due("the state is the same", 1, x.restore());
        Check.due("states", 1, x.count(12));
        Check.due("undo", 0, x.undo());
        Check.commit(x, 0, "7=7");
        x.restore();
        Check.due("versions", 1, x.count(0));
        Check.due("undo", 1, x.undo());
        Check.due("versions again", 2, x.count(0));
        Check.due("their field", 7, x.read(1, 7));
        for (int restore = 0; restore < 6; restore++) {
            Check.due("restore", 1, x.restore());
        }
        Check.due("at most 4 states", 4, x.count(12));
    }

    // ---- what a state is

    private static void stateIsEverythingElse() {
        Check.about("History: a state is everything but the history");
        StepVersions x = Check.row(1);
        x.keep();
        Check.commit(x, 0, "7=2");
        Check.commit(x, 0, "7=3");
        x.restore();
        Check.due("states are not restored", 4, x.count(12));
        Check.about("History: and the snapshot");
        x = Check.row(1);
        x.keep();
        x.undo();
        Check.due("undo takes no snapshot away", 2, x.restore());
        x.spoil(0);
        x.keep();
        x.undo();
        x.restore();
        Check.due("nor brings the one before back", 1, x.version(0, 7));
        Check.about("History: and the text");
        Check.text(x, "7=9");
        x.undo();
        Check.due("length", 3, x.count(13));
    }

    private static void stateOfTheVersions() {
        Check.about("History: heads, limit, merges and conflicts are restored, too");
        StepVersions x = Check.chain("0=1");
        x.fork(0);
        Check.commit(x, 1, "0=2");
        x.keep();
        x.setLimit(7);
        Check.due("conflict", 1, x.merge(0, 1));
        Check.due("merges", 1, x.count(10));
        x.fork(3);
        x.restore();
        Check.due("limit", 4, x.count(5));
        Check.due("merges", 0, x.count(10));
        Check.due("conflicts", 0, x.count(11));
        Check.due("heads", 2, x.count(4));
        Check.due("head", 1, x.head(0));
        x.undo();
        Check.due("limit", 7, x.count(5));
        Check.due("merges", 1, x.count(10));
        Check.due("conflicts", 1, x.count(11));
        Check.due("heads", 3, x.count(4));
        Check.due("second parent", 2, x.version(3, 2));
    }

    /** Heads 0 and 1 at versions 1 and 2, and a snapshot with the version 3, which is undone. */
    private static StepVersions snapshotOfThree(boolean merged) {
        StepVersions x = Check.chain("0=1");
        x.fork(0);
        Check.commit(x, 1, "1=2");
        Check.due("the first 3", merged ? 0 : 3, merged ? x.merge(0, 1) : Check.commit(x, 0, "2=3"));
        x.keep();
        x.undo();
        return x;
    }

    private static void numbersThatAreUsedAgain() {
        Check.about("History: a state has the versions that were, also if a number is used again");
        StepVersions x = snapshotOfThree(true);
        Check.due("the other 3", 3, Check.commit(x, 1, "11=9"));
        x.restore();
        Check.due("the first 3's field", 2, x.read(3, 1));
        Check.due("not the other 3's field", 0, x.read(3, 11));
        Check.due("parent", 1, x.version(3, 1));
        Check.due("second parent", 2, x.version(3, 2));
        Check.due("base", 1, x.version(3, 3));
        x.undo();
        Check.due("the other 3's field", 9, x.read(3, 11));
        Check.due("as its parent", 0, x.read(3, 0));
        Check.due("parent", 2, x.version(3, 1));
        Check.due("no second parent", StepVersions.NONE, x.version(3, 2));
        Check.due("base", 2, x.version(3, 3));
        x = snapshotOfThree(false);
        Check.due("a merge as the other 3", 0, x.merge(1, 0));
        x.restore();
        Check.due("the first 3's field", 3, x.read(3, 2));
        Check.due("no second parent", StepVersions.NONE, x.version(3, 2));
        x.undo();
        Check.due("second parent", 1, x.version(3, 2));
        Check.due("the other 3's field", 2, x.read(3, 1));
        theLastNumberUsedAgain();
    }

    private static void theLastNumberUsedAgain() {
        StepVersions x = Check.row(39);
        x.keep();
        x.undo();
        Check.due("the other 39", 39, Check.commit(x, 0, "11=5"));
        Check.due("all versions", 40, x.restore());
        Check.due("the first 39's field", 39, x.read(39, 7));
        Check.due("not the other 39's field", 0, x.read(39, 11));
        x.undo();
        Check.due("the other 39's field", 5, x.read(39, 11));
        Check.due("as its parent", 38, x.read(39, 7));
    }
}
