/** Promises 7 to 10 and 23: storeWhole, rebase, setLimit, optimize, bestBase. */
public final class StoringTest {
    public static void main(String[] args) {
        storesWhole();
        rebases();
        rebaseErrors();
        rebaseTooFar();
        limits();
        optimizes();
        optimizeWithinTheLimit();
        optimizeErrors();
        bestBases();
        bestBaseWithinTheLimit();
        bestBaseErrors();
        Check.end();
    }

    private static void storesWhole() {
        StepVersions x = Check.chain("0=1", "0=2,1=1,2=2");
        Check.due("storeWhole", 1000 + 7 - 12, x.storeWhole(2));
        Check.due("base", StepVersions.NONE, x.version(2, 3));
        Check.due("steps", 0, x.version(2, 4));
        Check.due("cost", 12, x.version(2, 5));
        Check.due("again", StepVersions.NONE, x.storeWhole(2));
        Check.due("version 0", StepVersions.NONE, x.storeWhole(0));
        Check.due("unknown", StepVersions.UNKNOWN, x.storeWhole(3));
        Check.due("negative", StepVersions.UNKNOWN, x.storeWhole(-1));
        Check.due("states", 3, x.count(12));
        Check.due("one that is a base", 1000 + 3 - 12, x.storeWhole(1));
        x.spoil(0);
        Check.due("spoiled before none", StepVersions.SPOILED, x.storeWhole(0));
        x.drop(0);
        Check.due("gone", StepVersions.UNKNOWN, x.storeWhole(0));
        x = Check.chain("0=1", "0=2");
        x.spoil(1);
        Check.due("spoiled", StepVersions.SPOILED, x.storeWhole(1));
        Check.due("spoiled on the way", StepVersions.SPOILED, x.storeWhole(2));
        x = Check.chain("0=1", "0=2,1=1,2=1,3=1,4=1", "0=3,1=0,2=0,3=0,4=0");
        x.drop(1);
        x.drop(2);
        Check.due("hidden costs are saved", 1000 + 3 + 11 + 11 - 12, x.storeWhole(3));
    }

    private static void rebases() {
        StepVersions x = Check.chain("0=1,1=1", "0=2,2=2", "0=1,2=0,3=3");
        Check.due("rebase", 3, x.rebase(3, 1));
        Check.due("base", 1, x.version(3, 3));
        Check.due("steps", 2, x.version(3, 4));
        Check.due("fields stay", 3, x.read(3, 3));
        Check.due("states", 4, x.count(12));
        Check.due("again", StepVersions.NONE, x.rebase(3, 1));
        x.storeWhole(3);
        Check.due("by a higher one", 3, x.rebase(1, 3));
        Check.due("base", 3, x.version(1, 3));
        Check.due("steps go on", 2, x.version(2, 4));
        x = Check.chain("0=1,1=1,2=1,3=1,4=1,5=1", "6=1,7=1,8=1,9=1,10=1,11=1");
        Check.due("all differ", 25, x.rebase(2, 0));
        x = Check.chain("0=1", "0=0");
        Check.due("none differs", 1, x.rebase(2, 0));
    }

    private static void rebaseErrors() {
        StepVersions x = Check.chain("0=1", "0=2", "0=3");
        Check.due("unknown", StepVersions.UNKNOWN, x.rebase(4, 0));
        Check.due("unknown base", StepVersions.UNKNOWN, x.rebase(0, 4));
        Check.due("unknown before bad", StepVersions.UNKNOWN, x.rebase(4, 4));
        Check.due("negative", StepVersions.UNKNOWN, x.rebase(-1, 0));
        Check.due("negative base", StepVersions.UNKNOWN, x.rebase(0, -1));
        Check.due("same", StepVersions.BAD_VALUE, x.rebase(1, 1));
        Check.due("on the way", StepVersions.NOT_POSSIBLE, x.rebase(1, 3));
        Check.due("on the way", StepVersions.NOT_POSSIBLE, x.rebase(0, 1));
        x.spoil(2);
        Check.due("bad before spoiled", StepVersions.BAD_VALUE, x.rebase(2, 2));
        Check.due("spoiled", StepVersions.SPOILED, x.rebase(2, 0));
        Check.due("spoiled on the way", StepVersions.SPOILED, x.rebase(3, 0));
        Check.due("spoiled base", StepVersions.SPOILED, x.rebase(0, 2));
        Check.due("spoiled before not possible", StepVersions.SPOILED, x.rebase(1, 3));
        Check.due("spoiled before none", StepVersions.SPOILED, x.rebase(3, 2));
        x.undo();
        x.setLimit(3);
        Check.due("not possible before too far", StepVersions.NOT_POSSIBLE, x.rebase(0, 3));
        Check.due("states", 4, x.count(12));
    }

    private static void rebaseTooFar() {
        StepVersions x = Check.chain("0=1", "0=2", "0=3", "0=4");
        x.fork(0);
        Check.commit(x, 1, "1=1");
        Check.commit(x, 1, "1=2");
        Check.due("itself", StepVersions.TOO_FAR, x.rebase(6, 4));
        Check.due("one behind it", StepVersions.TOO_FAR, x.rebase(5, 3));
        Check.due("just near enough", 5, x.rebase(5, 2));
        Check.due("four steps", 4, x.version(6, 4));
        x.undo();
        Check.due("just near enough", 5, x.rebase(6, 3));
        x.undo();
        x.setLimit(5);
        Check.due("with another limit", 5, x.rebase(6, 4));
        Check.due("five steps", 5, x.count(8));
        x = Check.chain("0=1", "0=2");
        x.storeWhole(1);
        x.rebase(0, 1);
        Check.due("the version 0 is a dependant", 2, x.version(1, 6));
        x.storeWhole(2);
        Check.due("and has the most steps", 1, x.count(8));
        x.setLimit(1);
        Check.due("it would be too far", StepVersions.TOO_FAR, x.rebase(1, 2));
    }

    private static void limits() {
        StepVersions x = Check.chain("0=1", "0=2", "0=3");
        Check.due("0", StepVersions.BAD_VALUE, x.setLimit(0));
        Check.due("9", StepVersions.BAD_VALUE, x.setLimit(9));
        Check.due("negative", StepVersions.BAD_VALUE, x.setLimit(Integer.MIN_VALUE));
        Check.due("same", StepVersions.NONE, x.setLimit(4));
        Check.due("too far", StepVersions.TOO_FAR, x.setLimit(2));
        Check.due("too far", StepVersions.TOO_FAR, x.setLimit(1));
        Check.due("states", 3, x.count(12));
        Check.due("just enough", 4, x.setLimit(3));
        Check.due("limit", 3, x.count(5));
        Check.due("up", 3, x.setLimit(8));
        Check.due("states", 4, x.count(12));
        for (int version = 4; version <= 9; version++) {
            Check.due("commit", version, Check.commit(x, 0, "0=" + version));
        }
        Check.due("eight steps", 8, x.version(8, 4));
        Check.due("whole", 0, x.version(9, 4));
        x.moveHead(0, 3);
        for (int version = 9; version > 3; version--) {
            x.drop(version);
        }
        Check.due("those that are gone do not count", 8, x.setLimit(3));
        x.drop(2);
        Check.due("hidden ones count", StepVersions.TOO_FAR, x.setLimit(2));
        x.undo();
        x.undo();
        Check.due("limit undone", 8, x.count(5));
    }

    private static void optimizes() {
        StepVersions x = Check.chain("0=1,1=1,2=1,3=1,4=1", "0=0,1=0,2=0,3=0,4=0,5=5", "5=6,0=1");
        Check.due("as committed", 12 + 11 + 12 + 5, x.count(6));
        Check.due("optimize", 1000 + 40 - (12 + 11 + 3 + 5), x.optimize());
        Check.due("base", 0, x.version(1, 3));
        Check.due("cheapest base", 0, x.version(2, 3));
        Check.due("lowest base of several", 0, x.version(3, 3));
        Check.due("states", 4, x.count(12));
        Check.due("again", StepVersions.NONE, x.optimize());
        Check.due("states", 4, x.count(12));
        x = Check.chain("0=1,1=1,2=1,3=1,4=1,5=1");
        x.rebase(0, 1);
        Check.due("upwards is undone", 1000 + 25 - 24, x.optimize());
        Check.due("whole", StepVersions.NONE, x.version(0, 3));
        Check.due("whole", StepVersions.NONE, x.version(1, 3));
        x = Check.chain("0=1");
        x.storeWhole(1);
        x.storeWhole(0);
        x.rebase(0, 1);
        Check.due("same cost", 1000, x.optimize());
        Check.due("by the lower one", 0, x.version(1, 3));
    }

    private static void optimizeWithinTheLimit() {
        StepVersions x = Check.chain("0=1", "1=1", "2=1", "3=1", "4=1");
        Check.due("the fifth is whole", StepVersions.NONE, x.version(5, 3));
        Check.due("optimize", 1000 + 12 - 5, x.optimize());
        Check.due("steps less than the limit", 3, x.version(5, 3));
        Check.due("steps", 4, x.version(5, 4));
        x = Check.chain("0=1", "1=1");
        x.storeWhole(2);
        x.storeWhole(1);
        x.setLimit(1);
        Check.due("with limit 1", 1000 + 36 - (12 + 3 + 5), x.optimize());
        Check.due("only the whole one", 0, x.version(2, 3));
        x = Check.chain("0=1", "1=1", "2=1");
        x.drop(1);
        x.drop(2);
        x.setLimit(8);
        x.storeWhole(3);
        Check.due("hidden ones are gone already", 2, x.count(3));
        Check.due("bases that are gone do not count", 1000 + 12 - 7, x.optimize());
    }

    private static void optimizeErrors() {
        StepVersions x = Check.chain("0=1");
        x.spoil(1);
        Check.due("spoiled", StepVersions.SPOILED, x.optimize());
        x.moveHead(0, 0);
        x.drop(1);
        Check.due("the spoiled one is gone", StepVersions.NONE, x.optimize());
        Check.due("new", StepVersions.NONE, new StepVersions().optimize());
    }

    private static void bestBases() {
        StepVersions x = Check.chain("0=1", "0=2", "1=1", "0=1,1=0");
        Check.due("none differs", 1, x.bestBase(4));
        Check.due("one differs, the lowest", 0, x.bestBase(2));
        Check.due("may be as it is", 0, x.bestBase(1));
        Check.due("on the way of all", StepVersions.NONE, x.bestBase(0));
        Check.due("no state", 4, x.count(12));
        x = Check.chain("0=1,1=1,2=1,3=1,4=1,5=1", "0=2");
        Check.due("too many differ", StepVersions.NONE, x.bestBase(1));
        Check.due("the only one", 1, x.bestBase(2));
        x = Check.chain("0=1,1=1,2=1,3=1,4=1");
        Check.due("five differ", 0, x.bestBase(1));
        x.storeWhole(1);
        Check.due("a higher one", 1, x.bestBase(0));
        x = Check.chain("0=1", "0=2");
        x.drop(1);
        Check.due("of a hidden one", 0, x.bestBase(1));
        x.moveHead(0, 0);
        x.drop(2);
        Check.due("alone", StepVersions.NONE, x.bestBase(0));
    }

    private static void bestBaseWithinTheLimit() {
        StepVersions x = Check.chain("0=1", "1=1", "2=2", "3=3");
        x.fork(0);
        Check.commit(x, 1, "0=1,1=1,2=2,3=3,4=1");
        Check.due("the nearest is too far", 3, x.bestBase(5));
        Check.commit(x, 1, "5=5");
        Check.due("with one behind it", 2, x.bestBase(5));
        x.setLimit(5);
        Check.due("with another limit", 3, x.bestBase(5));
        x.setLimit(8);
        Check.due("with another limit", 4, x.bestBase(5));
        x.spoil(3);
        Check.due("by those that can be read", 2, x.bestBase(5));
    }

    private static void bestBaseErrors() {
        StepVersions x = Check.chain("0=1", "0=2");
        Check.due("unknown", StepVersions.UNKNOWN, x.bestBase(3));
        Check.due("negative", StepVersions.UNKNOWN, x.bestBase(-1));
        x.spoil(1);
        Check.due("spoiled", StepVersions.SPOILED, x.bestBase(1));
        Check.due("spoiled on the way", StepVersions.SPOILED, x.bestBase(2));
        Check.due("on the way of all others", StepVersions.NONE, x.bestBase(0));
        x.moveHead(0, 0);
        x.drop(2);
        Check.due("gone", StepVersions.UNKNOWN, x.bestBase(2));
    }
}
