/** The boundary cases of promise 6, and of "Dropping": what is hidden, and what is gone when. */
public final class DropEdgesTest {
    private static final int[] NO_VERSIONS =
            {Integer.MIN_VALUE, -5, -1, 3, 4, 39, 40, 41, Integer.MAX_VALUE};

    public static void main(String[] args) {
        hidden();
        gone();
        goneInARow();
        goneByAnotherBase();
        goneByNoBase();
        goneByMending();
        goneBehindAll();
        whatStays();
        unknown();
        notPossible();
        Check.end();
    }

    private static StepVersions three() {
        return Check.chain("0=1", "0=2");
    }

    private static void hidden() {
        Check.about("6: 0 if it is hidden; it is if any present version has it as its base");
        StepVersions x = Check.chain("0=1", "0=2", "0=3");
        Check.due("the base of a kept one", 0, x.drop(2));
        Check.due("hidden", 1, x.version(2, 0));
        Check.due("the base of a hidden one", 0, x.drop(1));
        Check.due("hidden, too", 1, x.version(1, 0));
        Check.due("the version 0", 0, x.drop(0));
        Check.due("hidden, too", 1, x.version(0, 0));
        Check.about("6: this is an act");
        Check.due("states", 4, x.count(12));
        Check.about("Versions: kept and hidden versions are present: their data is stored");
        Check.due("hidden", 3, x.count(2));
        Check.due("kept", 1, x.count(1));
        Check.due("cost", 12 + 3 * 3, x.count(6));
        Check.due("stored whole", 1, x.count(7));
        Check.due("steps", 3, x.count(8));
        Check.due("read by them", 3, x.read(3, 0));
        Check.about("6: the base of one that cannot be read");
        x = three();
        x.spoil(2);
        Check.due("hidden", 0, x.drop(1));
        Check.about("Dropping: a version that has another base does not count");
        x = three();
        x.rebase(2, 0);
        Check.due("gone, though it is a parent", 1, x.drop(1));
    }

    private static void gone() {
        Check.about("6: otherwise it is gone; returns how many are gone by that");
        StepVersions x = three();
        x.moveHead(0, 1);
        Check.due("no base", 1, x.drop(2));
        Check.due("gone", 2, x.version(2, 0));
        Check.due("its base is kept", 0, x.version(1, 0));
        Check.due("versions so far", 3, x.count(0));
        Check.due("gone ones", 1, x.count(3));
        Check.due("cost", 15, x.count(6));
        Check.about("6: the version 0 can be dropped, too");
        x = Check.chain("0=1");
        x.storeWhole(1);
        Check.due("the version 0", 1, x.drop(0));
        Check.due("gone", 2, x.version(0, 0));
        Check.due("the last one is read", 1, x.read(1, 0));
        Check.about("6: one that is spoiled can be dropped");
        x = three();
        x.moveHead(0, 0);
        x.spoil(2);
        x.spoil(1);
        Check.due("spoiled", 1, x.drop(2));
        Check.due("and its base", 1, x.drop(1));
        Check.due("none is unreadable", 0, x.count(9));
        Check.about("Versions: at most 40 ever, so a number is not used again");
        Check.due("commit", 3, Check.commit(x, 0, "0=3"));
    }

    private static void goneInARow() {
        Check.about("Dropping: a hidden version that is no base any more is gone, too (and so on)");
        StepVersions x = Check.chain("0=1", "0=2", "0=3", "0=4");
        x.drop(1);
        x.drop(2);
        x.drop(3);
        x.moveHead(0, 0);
        Check.due("all four", 4, x.drop(4));
        Check.due("gone", 4, x.count(3));
        Check.about("Dropping: but no further than to a kept one");
        x = Check.chain("0=1", "0=2", "0=3", "0=4");
        x.drop(1);
        x.drop(3);
        x.moveHead(0, 0);
        Check.due("up to the kept one", 2, x.drop(4));
        Check.due("kept", 0, x.version(2, 0));
        Check.due("hidden behind it", 1, x.version(1, 0));
        Check.due("and then those", 2, x.drop(2));
        Check.about("Dropping: nor one that is another's base still");
        x = Check.chain("0=1", "0=2");
        x.moveHead(0, 1);
        Check.commit(x, 0, "0=3");
        x.moveHead(0, 0);
        x.drop(1);
        Check.due("the first of both", 1, x.drop(2));
        Check.due("hidden", 1, x.version(1, 0));
        Check.due("the last of both", 2, x.drop(3));
        Check.due("gone", 2, x.version(1, 0));
        Check.about("Dropping: down to the version 0");
        x = Check.chain("0=1");
        x.fork(0);
        Check.commit(x, 1, "0=0,1=1,2=1,3=1,4=1,5=1,6=1");
        x.moveHead(0, 2);
        x.drop(0);
        Check.due("both", 2, x.drop(1));
        Check.due("gone", 2, x.version(0, 0));
    }

    /** Version 3 upon 2 upon 1 upon 0; 1 and 2 are hidden. */
    private static StepVersions hiddenBetween() {
        StepVersions x = Check.chain("0=1", "0=2", "0=3");
        x.drop(1);
        x.drop(2);
        return x;
    }

    private static void goneByAnotherBase() {
        Check.about("Dropping: whenever a present version gets another base");
        StepVersions x = hiddenBetween();
        Check.due("rebase", 3, x.rebase(3, 0));
        Check.due("both gone", 2, x.count(3));
        x = hiddenBetween();
        Check.due("by the one behind", 3, x.rebase(3, 1));
        Check.due("one is gone", 2, x.version(2, 0));
        Check.due("the other is a base again", 1, x.version(1, 0));
        x = hiddenBetween();
        Check.due("a hidden one gets it", 3, x.rebase(2, 0));
        Check.due("its base is gone", 2, x.version(1, 0));
        Check.due("it is hidden still", 1, x.version(2, 0));
        Check.about("Dropping: one that gets no other base lets none go");
        x = hiddenBetween();
        Check.due("by the same", StepVersions.NONE, x.rebase(3, 2));
        Check.due("hidden", 2, x.count(2));
    }

    private static void goneByNoBase() {
        Check.about("Dropping: or none");
        StepVersions x = hiddenBetween();
        Check.due("storeWhole", 1000 + 9 - 12, x.storeWhole(3));
        Check.due("both gone", 2, x.count(3));
        x = hiddenBetween();
        Check.due("a hidden one", 1000 + 3 + 3 - 12, x.storeWhole(2));
        Check.due("its base is gone", 2, x.version(1, 0));
        Check.due("it is hidden still", 1, x.version(2, 0));
    }

    private static void goneByMending() {
        Check.about("Dropping: or none, by mend()");
        StepVersions x = hiddenBetween();
        x.spoil(3);
        Check.text(x, "0=3");
        Check.due("mend by its own base", 0, x.mend(3, 2));
        Check.due("both gone", 2, x.count(3));
        x = hiddenBetween();
        x.spoil(2);
        Check.text(x, "0=2");
        Check.due("a hidden one", 0, x.mend(2, 1));
        Check.due("its base is gone", 2, x.version(1, 0));
        Check.due("it is hidden still", 1, x.version(2, 0));
        x = hiddenBetween();
        x.spoil(2);
        x.spoil(3);
        Check.text(x, "0=3");
        Check.due("a spoiled one goes", 0, x.mend(3, 0));
        Check.due("gone", 2, x.version(2, 0));
        Check.due("none is unreadable", 0, x.count(9));
    }

    private static void goneBehindAll() {
        Check.about("Dropping: where all are stored anew, behind all of it");
        // Only version 2 is upon the hidden 1 at first, only version 3 behind optimize().
        StepVersions x = Check.chain("0=1,1=1,2=1,3=1", "0=0,1=0,2=0,3=0", "0=1,1=1,2=1,3=1,4=1");
        x.drop(1);
        Check.due("base of the last one", 2, x.version(3, 3));
        Check.due("optimize", 1000 + (12 + 9 + 9 + 11) - (12 + 9 + 1 + 3), x.optimize());
        Check.due("another base for 2", 0, x.version(2, 3));
        Check.due("base of the last one", 1, x.version(3, 3));
        Check.due("hidden still", 1, x.version(1, 0));
        Check.about("10: hidden versions that are no base behind all this are gone then");
        x = hiddenBetween();
        Check.due("optimize", 1000 + 12 + 9 - 15, x.optimize());
        Check.due("both gone", 2, x.count(3));
        x = Check.chain("0=1,1=1,2=1,3=1,4=1,5=1");
        x.rebase(1, 0);
        x.drop(0);
        Check.due("optimize", 1000 + 25 - 12, x.optimize());
        Check.due("the version 0 is gone", 2, x.version(0, 0));
        x = Check.chain("0=1", "0=2");
        x.storeWhole(2);
        x.rebase(0, 2);
        x.rebase(1, 2);
        x.moveHead(0, 1);
        x.drop(2);
        Check.due("hidden", 1, x.version(2, 0));
        Check.due("optimize", 1000 + 18 - 15, x.optimize());
        Check.due("the last one is gone", 2, x.version(2, 0));
    }

    private static void whatStays() {
        Check.about("Versions: a version's fields never change; the history brings them back");
        StepVersions x = Check.chain("0=1,11=7", "0=2");
        x.moveHead(0, 0);
        x.drop(1);
        Check.due("both gone", 2, x.drop(2));
        x.undo();
        Check.due("present again", 0, x.version(2, 0));
        Check.due("hidden again", 1, x.version(1, 0));
        Check.due("base", 1, x.version(2, 3));
        Check.due("field", 7, x.read(2, 11));
        x.undo();
        Check.due("kept again", 7, x.read(1, 11));
    }

    private static void unknown() {
        Check.about("6: UNKNOWN if there is no such version");
        for (int version : NO_VERSIONS) {
            Check.refused("drop(" + version + ")", StepVersions.UNKNOWN, DropEdgesTest::three,
                    x -> x.drop(version));
        }
        Check.refused("gone", StepVersions.UNKNOWN, () -> {
            StepVersions x = three();
            x.moveHead(0, 1);
            x.drop(2);
            return x;
        }, x -> x.drop(2));
        Check.about("6: UNKNOWN also if it is hidden");
        Check.refused("hidden", StepVersions.UNKNOWN, DropEdgesTest::hiddenBetween, x -> x.drop(1));
        Check.refused("hidden", StepVersions.UNKNOWN, DropEdgesTest::hiddenBetween, x -> x.drop(2));
    }

    private static StepVersions fourHeads() {
        StepVersions x = three();
        x.fork(1);
        x.fork(1);
        x.fork(0);
        return x;
    }

    private static void notPossible() {
        Check.about("6: NOT_POSSIBLE if a head is at it");
        Check.refused("head 0", StepVersions.NOT_POSSIBLE, DropEdgesTest::fourHeads, x -> x.drop(2));
        Check.refused("head 1", StepVersions.NOT_POSSIBLE, DropEdgesTest::fourHeads, x -> x.drop(1));
        Check.refused("head 3", StepVersions.NOT_POSSIBLE, DropEdgesTest::fourHeads, x -> x.drop(0));
        StepVersions x = fourHeads();
        x.moveHead(1, 0);
        Check.due("head 2 is there still", StepVersions.NOT_POSSIBLE, x.drop(1));
        x.moveHead(2, 0);
        Check.due("no head is there", 0, x.drop(1));
        Check.about("Heads: each is at a kept version");
        Check.due("a new object's only one", StepVersions.NOT_POSSIBLE, new StepVersions().drop(0));
    }
}
