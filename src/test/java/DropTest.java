/** Promise 6: drop; hidden versions that are gone when they are no base any more. */
public final class DropTest {
    public static void main(String[] args) {
        drops();
        errors();
        chainsGo();
        goneByOtherActs();
        optimizeLetsHiddenOnesGo();
        Check.end();
    }

    private static void drops() {
        StepVersions x = Check.chain("0=1", "0=2");
        Check.due("hidden", 0, x.drop(1));
        Check.due("is hidden", 1, x.version(1, 0));
        Check.due("its cost counts", 18, x.count(6));
        Check.due("read by it", 2, x.read(2, 0));
        Check.due("hidden is not read", StepVersions.UNKNOWN, x.read(1, 0));
        Check.due("states", 3, x.count(12));
        x.moveHead(0, 0);
        Check.due("both gone", 2, x.drop(2));
        Check.due("is gone", 2, x.version(1, 0));
        Check.due("is gone", 2, x.version(2, 0));
        Check.due("parent stays", 1, x.version(2, 1));
        Check.due("no base", StepVersions.NONE, x.version(2, 3));
        Check.due("no steps", StepVersions.NONE, x.version(2, 4));
        Check.due("no cost", 0, x.version(2, 5));
        Check.due("no base of others", 0, x.version(1, 6));
        Check.due("kept", 1, x.count(1));
        Check.due("gone", 2, x.count(3));
        Check.due("cost", 12, x.count(6));
        Check.due("number is not used again", 3, Check.commit(x, 0, "0=2"));
    }

    private static void errors() {
        StepVersions x = Check.chain("0=1", "0=2");
        Check.due("head at it", StepVersions.NOT_POSSIBLE, x.drop(2));
        Check.due("unknown", StepVersions.UNKNOWN, x.drop(3));
        Check.due("negative", StepVersions.UNKNOWN, x.drop(-1));
        x.fork(0);
        Check.due("other head at it", StepVersions.NOT_POSSIBLE, x.drop(0));
        x.drop(1);
        Check.due("hidden", StepVersions.UNKNOWN, x.drop(1));
        Check.due("states", 4, x.count(12));
        x.moveHead(0, 0);
        x.drop(2);
        Check.due("gone", StepVersions.UNKNOWN, x.drop(2));
        x = Check.chain("0=1");
        x.moveHead(0, 0);
        x.spoil(1);
        Check.due("spoiled", 1, x.drop(1));
        Check.due("gone is not spoiled", 0, x.version(1, 7));
        Check.due("nor unreadable", 0, x.count(9));
    }

    private static void chainsGo() {
        StepVersions x = Check.chain("0=1", "0=2", "0=3", "0=4");
        x.fork(2);
        x.moveHead(0, 0);
        x.drop(3);
        x.drop(1);
        Check.due("hidden", 2, x.count(2));
        Check.due("up to the kept one", 2, x.drop(4));
        Check.due("below the kept one", 1, x.version(1, 0));
        Check.due("kept one", 0, x.version(2, 0));
        x.moveHead(1, 0);
        Check.due("the rest", 2, x.drop(2));
        x = Check.chain("0=1");
        x.fork(1);
        Check.commit(x, 0, "0=2");
        Check.commit(x, 1, "0=3");
        x.drop(1);
        x.fork(0);
        x.moveHead(0, 0);
        x.moveHead(1, 0);
        Check.due("base of another still", 1, x.drop(2));
        Check.due("hidden", 1, x.version(1, 0));
        Check.due("last one", 2, x.drop(3));
    }

    private static StepVersions hiddenChain() {
        StepVersions x = Check.chain("0=1", "0=2", "0=3");
        x.drop(1);
        x.drop(2);
        return x;
    }

    private static void goneByOtherActs() {
        StepVersions x = hiddenChain();
        Check.due("storeWhole", 1000 + 9 - 12, x.storeWhole(3));
        Check.due("gone", 2, x.count(3));
        x = hiddenChain();
        Check.due("rebase", 3, x.rebase(3, 0));
        Check.due("gone", 2, x.count(3));
        x = hiddenChain();
        Check.due("rebase by a hidden one", 3, x.rebase(3, 1));
        Check.due("gone between", 2, x.version(2, 0));
        Check.due("hidden stays", 1, x.version(1, 0));
        x = hiddenChain();
        Check.due("rebase of a hidden one", 3, x.rebase(2, 0));
        Check.due("gone", 2, x.version(1, 0));
        Check.due("base of a kept one", 1, x.version(2, 0));
        x = hiddenChain();
        x.spoil(3);
        Check.text(x, "0=3");
        Check.due("mend", 0, x.mend(3, 0));
        Check.due("gone", 2, x.count(3));
        x = hiddenChain();
        x.spoil(2);
        Check.text(x, "0=2");
        Check.due("mend a hidden one", 0, x.mend(2, 0));
        Check.due("gone", 2, x.version(1, 0));
        Check.due("hidden still", 1, x.version(2, 0));
    }

    private static void optimizeLetsHiddenOnesGo() {
        StepVersions x = Check.chain("0=1,1=1", "0=2,2=2", "0=3,2=0,1=0");
        x.drop(1);
        x.drop(2);
        Check.due("optimize", 1000 + (12 + 5 + 5 + 7) - (12 + 3), x.optimize());
        Check.due("base", 0, x.version(3, 3));
        Check.due("gone", 2, x.count(3));
        Check.due("again", StepVersions.NONE, x.optimize());
        x = Check.chain("0=1,1=1", "2=2", "3=3");
        x.drop(1);
        x.drop(2);
        Check.due("as stored", StepVersions.NONE, x.optimize());
        Check.due("hidden still", 2, x.count(2));
        x = Check.chain("0=1");
        x.storeWhole(1);
        x.rebase(0, 1);
        x.moveHead(0, 0);
        Check.due("base of the version 0", 0, x.drop(1));
        Check.due("optimize", 1000 + 15 - 12, x.optimize());
        Check.due("the highest one is gone", 2, x.version(1, 0));
        x = Check.chain("0=1,1=1,2=1,3=1,4=1,5=1");
        x.rebase(1, 0);
        x.drop(0);
        Check.due("optimize", 1000 + 25 - 12, x.optimize());
        Check.due("the version 0 is gone", 2, x.version(0, 0));
    }
}
