/** The boundary cases of promises 7 to 10: storeWhole, rebase, setLimit, optimize. */
public final class StoringEdgesTest {
    private static final int[] NO_VERSIONS =
            {Integer.MIN_VALUE, -5, -1, 3, 4, 39, 40, 41, Integer.MAX_VALUE};

    public static void main(String[] args) {
        storeWholeReturns();
        storeWholeUnknown();
        storeWholeSpoiled();
        storeWholeNone();
        rebaseReturns();
        rebaseUnknown();
        rebaseBadValue();
        rebaseSpoiled();
        rebaseNotPossible();
        rebaseTooFar();
        rebaseTooFarForThoseBehind();
        rebaseNone();
        setLimitReturns();
        setLimitBadValue();
        setLimitTooFar();
        setLimitNone();
        Check.end();
    }

    private static StepVersions three() {
        return Check.chain("0=1", "0=2");
    }

    /** Version 1 is gone, 2 is upon 0. */
    private static StepVersions gone() {
        StepVersions x = three();
        x.rebase(2, 0);
        x.drop(1);
        return x;
    }

    private static StepVersions spoiled(int version) {
        StepVersions x = three();
        x.spoil(version);
        return x;
    }

    // ---- promise 7

    private static void storeWholeReturns() {
        Check.about("7: by how much the cost of all versions becomes less, plus 1000");
        StepVersions x = Check.chain("0=1,1=1,2=1,3=1,4=1", "0=0,1=0,2=0,3=0,4=0,0=9");
        Check.due("from 11 to 12", 999, x.storeWhole(1));
        Check.due("cost", 12, x.version(1, 5));
        Check.due("steps", 0, x.version(1, 4));
        Check.due("base", StepVersions.NONE, x.version(1, 3));
        Check.due("one behind it has less steps", 1, x.version(2, 4));
        Check.about("7: this is an act");
        Check.due("states", 3, x.count(12));
        x = Check.chain("0=1,1=1,2=1,3=1,4=1,5=1", "6=1,7=1,8=1,9=1,10=1,11=1");
        x.rebase(2, 0);
        Check.due("from 25 to 12", 1013, x.storeWhole(2));
        x = Check.chain("0=1", "0=2");
        x.fork(1);
        Check.commit(x, 1, "0=1,1=1");
        x.rebase(3, 1);
        Check.due("from 3 to 12", 991, x.storeWhole(3));
        x = Check.chain("0=1", "0=0");
        x.rebase(2, 0);
        Check.due("from 1 to 12", 989, x.storeWhole(2));
        Check.about("7: the cost of all versions, those that are gone then, too");
        x = Check.chain("0=1,1=1,2=1,3=1", "0=2,1=2,2=2,3=2");
        x.drop(1);
        Check.due("from 9 + 9 to 12", 1006, x.storeWhole(2));
        Check.due("cost", 24, x.count(6));
        Check.about("Versions: their fields never change, however they are stored");
        Check.due("field", 2, x.read(2, 3));
        Check.about("7: a hidden version, too");
        x = three();
        x.drop(1);
        Check.due("hidden", 991, x.storeWhole(1));
    }

    private static void storeWholeUnknown() {
        Check.about("7: UNKNOWN if there is no such version");
        for (int version : NO_VERSIONS) {
            Check.refused("storeWhole(" + version + ")", StepVersions.UNKNOWN,
                    StoringEdgesTest::three, x -> x.storeWhole(version));
        }
        Check.refused("gone", StepVersions.UNKNOWN, StoringEdgesTest::gone, x -> x.storeWhole(1));
    }

    private static void storeWholeSpoiled() {
        Check.about("7: SPOILED if it cannot be read");
        Check.refused("itself", StepVersions.SPOILED, () -> spoiled(2), x -> x.storeWhole(2));
        Check.refused("its base", StepVersions.SPOILED, () -> spoiled(1), x -> x.storeWhole(2));
        Check.refused("further on", StepVersions.SPOILED, () -> spoiled(0), x -> x.storeWhole(2));
        Check.due("one before the spoiled one", 991, spoiled(2).storeWhole(1));
        Check.about("7: SPOILED before NONE");
        Check.refused("whole", StepVersions.SPOILED, () -> spoiled(0), x -> x.storeWhole(0));
        Check.about("Spoiled: what is stored whole does not need its base any more");
        StepVersions x = three();
        x.storeWhole(2);
        x.spoil(1);
        Check.due("read", 2, x.read(2, 0));
    }

    private static void storeWholeNone() {
        Check.about("7: NONE if it is stored so already");
        Check.refused("version 0", StepVersions.NONE, StoringEdgesTest::three,
                x -> x.storeWhole(0));
        Check.refused("again", StepVersions.NONE, () -> {
            StepVersions x = three();
            x.storeWhole(2);
            return x;
        }, x -> x.storeWhole(2));
        Check.refused("committed so", StepVersions.NONE,
                () -> Check.chain("0=1,1=1,2=1,3=1,4=1,5=1"), x -> x.storeWhole(1));
    }

    // ---- promise 8

    private static void rebaseReturns() {
        Check.about("8: returns what it costs to store it then");
        StepVersions x = Check.chain("0=1", "0=2,1=1", "0=1,1=0");
        Check.due("no field differs", 1, x.rebase(3, 1));
        Check.due("base", 1, x.version(3, 3));
        Check.due("steps", 2, x.version(3, 4));
        Check.due("two differ", 5, x.rebase(2, 3));
        Check.due("a base with a higher number", 3, x.version(2, 3));
        Check.about("8: this is an act");
        Check.due("states", 4, x.count(12));
        x.undo();
        Check.due("undone", 1, x.version(2, 3));
        x = Check.chain("0=1,1=1,2=1,3=1,4=1,5=1", "6=1,7=1,8=1,9=1,10=1,11=1");
        Check.due("12 differ, dearer than whole", 25, x.rebase(2, 0));
        Check.due("cost", 25, x.version(2, 5));
        Check.due("6 differ", 13, x.rebase(2, 1));
        Check.about("8: a hidden version, and by a hidden one");
        x = Check.chain("0=1", "0=2", "0=3");
        x.drop(1);
        x.drop(2);
        Check.due("by a hidden one", 3, x.rebase(3, 1));
        x.undo();
        Check.due("a hidden one", 3, x.rebase(2, 0));
        Check.about("8: one that is stored whole");
        x = three();
        x.storeWhole(1);
        Check.due("the version 0", 3, x.rebase(0, 1));
        Check.due("stored whole", 1, x.count(7));
    }

    private static void rebaseUnknown() {
        Check.about("8: UNKNOWN if there is no such version or base");
        for (int version : NO_VERSIONS) {
            Check.refused("rebase(" + version + ", 0)", StepVersions.UNKNOWN,
                    StoringEdgesTest::three, x -> x.rebase(version, 0));
            Check.refused("rebase(2, " + version + ")", StepVersions.UNKNOWN,
                    StoringEdgesTest::three, x -> x.rebase(2, version));
        }
        Check.refused("gone", StepVersions.UNKNOWN, StoringEdgesTest::gone, x -> x.rebase(1, 0));
        Check.refused("gone base", StepVersions.UNKNOWN, StoringEdgesTest::gone,
                x -> x.rebase(2, 1));
        Check.about("8: UNKNOWN before BAD_VALUE");
        Check.due("rebase(3, 3)", StepVersions.UNKNOWN, three().rebase(3, 3));
        Check.due("rebase(-1, -1)", StepVersions.UNKNOWN, three().rebase(-1, -1));
        Check.about("8: UNKNOWN before SPOILED");
        Check.due("rebase(2, 3)", StepVersions.UNKNOWN, spoiled(0).rebase(2, 3));
    }

    private static void rebaseBadValue() {
        Check.about("8: BAD_VALUE if both are the same");
        for (int version = 0; version <= 2; version++) {
            int both = version;
            Check.refused("both " + both, StepVersions.BAD_VALUE, StoringEdgesTest::three,
                    x -> x.rebase(both, both));
        }
        Check.about("8: BAD_VALUE before SPOILED");
        Check.due("rebase(2, 2)", StepVersions.BAD_VALUE, spoiled(0).rebase(2, 2));
    }

    private static void rebaseSpoiled() {
        Check.about("8: SPOILED if one of both cannot be read");
        Check.refused("the version", StepVersions.SPOILED, () -> spoiled(2), x -> x.rebase(2, 0));
        Check.refused("on its way", StepVersions.SPOILED, () -> {
            StepVersions x = three();
            x.fork(1);
            Check.commit(x, 1, "0=3,1=1,2=1,3=1,4=1,5=1");
            x.spoil(1);
            return x;
        }, x -> x.rebase(2, 3));
        Check.refused("the base", StepVersions.SPOILED, () -> spoiled(1), x -> x.rebase(0, 1));
        Check.refused("on the base's way", StepVersions.SPOILED, () -> {
            StepVersions x = three();
            x.storeWhole(1);
            x.rebase(0, 1);
            Check.commit(x, 0, "0=3,1=1,2=1,3=1,4=1,5=1");
            x.spoil(1);
            return x;
        }, x -> x.rebase(3, 0));
        Check.about("8: SPOILED before NOT_POSSIBLE");
        Check.due("on the way", StepVersions.SPOILED, spoiled(0).rebase(1, 2));
        Check.due("the base spoiled", StepVersions.SPOILED, spoiled(2).rebase(1, 2));
        Check.about("8: SPOILED before TOO_FAR");
        StepVersions x = tooFar();
        x.spoil(5);
        Check.due("too far", StepVersions.SPOILED, x.rebase(5, 4));
        Check.about("8: SPOILED before NONE");
        Check.due("stored so", StepVersions.SPOILED, spoiled(2).rebase(2, 1));
    }

    private static void rebaseNotPossible() {
        Check.about("8: NOT_POSSIBLE if the version is on the way of the base");
        Check.refused("the base's base", StepVersions.NOT_POSSIBLE, StoringEdgesTest::three,
                x -> x.rebase(1, 2));
        Check.refused("the end of the way", StepVersions.NOT_POSSIBLE, StoringEdgesTest::three,
                x -> x.rebase(0, 2));
        Check.about("8: parents do not matter");
        StepVersions x = three();
        x.storeWhole(2);
        Check.due("a child as base", 3, x.rebase(1, 2));
        Check.due("and the version 0", 3, x.rebase(0, 1));
        Check.due("the version 0 is behind now", StepVersions.NOT_POSSIBLE, x.rebase(1, 0));
        Check.about("8: NOT_POSSIBLE before TOO_FAR");
        x = three();
        x.setLimit(2);
        Check.due("with limit 2", StepVersions.NOT_POSSIBLE, x.rebase(0, 2));
    }

    /** Versions 1 to 4 in a row upon 0, and version 5 upon 0, with limit 4. */
    private static StepVersions tooFar() {
        StepVersions x = Check.row(4);
        x.moveHead(0, 0);
        Check.due("version", 5, Check.commit(x, 0, "7=9"));
        return x;
    }

    private static void rebaseTooFar() {
        Check.about("8: TOO_FAR if it would have more steps than the limit");
        Check.refused("5 steps with 4", StepVersions.TOO_FAR, StoringEdgesTest::tooFar,
                x -> x.rebase(5, 4));
        StepVersions x = tooFar();
        Check.due("4 steps with 4", 3, x.rebase(5, 3));
        Check.due("steps", 4, x.version(5, 4));
        x = tooFar();
        x.setLimit(5);
        Check.due("5 steps with 5", 3, x.rebase(5, 4));
        x = Check.row(8);
        x.setLimit(8);
        Check.due("version 5, which is whole, and the three behind it", 3, x.rebase(5, 4));
        Check.due("8 steps with 8", 8, x.count(8));
        Check.commit(x, 0, "7=9");
        Check.due("9 steps with 8", StepVersions.TOO_FAR, x.rebase(9, 8));
        x = three();
        x.storeWhole(2);
        x.setLimit(1);
        Check.due("2 steps with 1", StepVersions.TOO_FAR, x.rebase(2, 1));
        Check.due("1 step with 1", 3, x.rebase(2, 0));
    }

    private static StepVersions twoBehind() {
        StepVersions x = tooFar();
        Check.commit(x, 0, "7=10");
        Check.commit(x, 0, "7=11");
        return x;
    }

    private static void rebaseTooFarForThoseBehind() {
        Check.about("8: TOO_FAR if some version would have more steps than the limit");
        Check.refused("one two behind", StepVersions.TOO_FAR, StoringEdgesTest::twoBehind,
                x -> x.rebase(5, 2));
        Check.due("just near enough", 3, twoBehind().rebase(5, 1));
        Check.refused("one behind", StepVersions.TOO_FAR, StoringEdgesTest::twoBehind,
                x -> x.rebase(6, 3));
        Check.due("just near enough", 3, twoBehind().rebase(6, 2));
        StepVersions x = twoBehind();
        x.moveHead(0, 0);
        Check.due("the last one is gone", 1, x.drop(7));
        Check.due("near enough without it", 3, x.rebase(5, 2));
        Check.about("8: also if a hidden one is between");
        x = twoBehind();
        x.drop(6);
        Check.due("hidden between", StepVersions.TOO_FAR, x.rebase(5, 2));
        Check.about("8: also if that is one with a lower number");
        x = tooFar();
        x.storeWhole(5);
        Check.due("the version 0 and all behind it", StepVersions.TOO_FAR, x.rebase(0, 5));
        x.setLimit(5);
        Check.due("just near enough", 3, x.rebase(0, 5));
    }

    private static void rebaseNone() {
        Check.about("8: NONE if it is stored so already");
        Check.refused("as committed", StepVersions.NONE, StoringEdgesTest::three,
                x -> x.rebase(2, 1));
        Check.refused("again", StepVersions.NONE, () -> {
            StepVersions x = three();
            x.rebase(2, 0);
            return x;
        }, x -> x.rebase(2, 0));
        StepVersions x = three();
        x.setLimit(2);
        Check.due("with the most steps", StepVersions.NONE, x.rebase(2, 1));
    }

    // ---- promise 9

    private static void setLimitReturns() {
        Check.about("9: returns the previous one");
        StepVersions x = new StepVersions();
        Check.due("the most", 4, x.setLimit(8));
        Check.due("limit", 8, x.count(5));
        Check.due("the least", 8, x.setLimit(1));
        Check.due("limit", 1, x.count(5));
        Check.due("between", 1, x.setLimit(5));
        Check.about("9: this is an act");
        Check.due("states", 3, x.count(12));
        x.undo();
        Check.due("undone", 1, x.count(5));
    }

    private static void setLimitBadValue() {
        Check.about("9: BAD_VALUE below 1 and above 8");
        for (int limit : new int[] {Integer.MIN_VALUE, -1, 0, 9, 10, Integer.MAX_VALUE}) {
            Check.refused("setLimit(" + limit + ")", StepVersions.BAD_VALUE, StepVersions::new,
                    x -> x.setLimit(limit));
        }
        Check.about("9: BAD_VALUE before TOO_FAR");
        Check.due("setLimit(0)", StepVersions.BAD_VALUE, three().setLimit(0));
    }

    private static void setLimitTooFar() {
        Check.about("9: TOO_FAR if some version would have more steps than the limit");
        Check.refused("2 steps", StepVersions.TOO_FAR, StoringEdgesTest::three,
                x -> x.setLimit(1));
        Check.due("just enough", 4, three().setLimit(2));
        StepVersions x = Check.row(3);
        x.rebase(3, 0);
        Check.due("one that is not the last", StepVersions.TOO_FAR, x.setLimit(1));
        Check.about("9: also if it is by hidden ones");
        x = Check.row(3);
        x.drop(1);
        x.drop(2);
        Check.due("3 steps", StepVersions.TOO_FAR, x.setLimit(2));
        Check.about("9: but not by one that is gone");
        x = three();
        x.moveHead(0, 1);
        x.drop(2);
        Check.due("gone", 4, x.setLimit(1));
        x = three();
        x.spoil(0);
        Check.about("9: also if they cannot be read");
        Check.due("spoiled", StepVersions.TOO_FAR, x.setLimit(1));
        Check.due("spoiled", 4, x.setLimit(2));
    }

    private static void setLimitNone() {
        Check.about("9: NONE if it is so already");
        Check.refused("setLimit(4)", StepVersions.NONE, StepVersions::new, x -> x.setLimit(4));
        StepVersions x = new StepVersions();
        x.setLimit(8);
        Check.due("setLimit(8)", StepVersions.NONE, x.setLimit(8));
        x.setLimit(1);
        Check.due("setLimit(1)", StepVersions.NONE, x.setLimit(1));
        Check.due("states", 2, x.count(12));
    }
}
