/** The boundary cases of promises 10 and 23: optimize, bestBase. */
public final class CheapEdgesTest {
    private static final String FIVE = "0=1,1=1,2=1,3=1,4=1";
    private static final String SIX = "0=1,1=1,2=1,3=1,4=1,5=1";
    private static final int[] NO_VERSIONS =
            {Integer.MIN_VALUE, -5, -1, 3, 4, 39, 40, 41, Integer.MAX_VALUE};

    public static void main(String[] args) {
        optimizeCheapest();
        optimizeLowest();
        optimizeLowerNumbers();
        optimizeSteps();
        optimizeHidden();
        optimizeReturns();
        optimizeSpoiled();
        optimizeNone();
        bestBaseFewest();
        bestBaseLessThanTwelve();
        bestBaseThatCanBeRead();
        bestBaseOnWhoseWayItIsNot();
        bestBaseWithinTheLimit();
        bestBaseUnknown();
        bestBaseSpoiled();
        Check.end();
    }

    // ---- promise 10

    private static StepVersions whole(String... texts) {
        StepVersions x = Check.chain(texts);
        for (int version = 1; version <= texts.length; version++) {
            x.storeWhole(version);
        }
        return x;
    }

    private static void optimizeCheapest() {
        Check.about("10: each one whole, or as changes, whichever costs least");
        StepVersions x = whole(FIVE);
        Check.due("5 differ", 1001, x.optimize());
        Check.due("by changes", 0, x.version(1, 3));
        x = Check.chain(SIX);
        x.rebase(1, 0);
        Check.due("6 differ", 1001, x.optimize());
        Check.due("whole", StepVersions.NONE, x.version(1, 3));
        x = whole("0=1,1=1,2=1", "3=1", "0=0,1=0,2=0");
        Check.due("the nearest", 1000 + 48 - (12 + 7 + 3 + 3), x.optimize());
        Check.due("base of 1", 0, x.version(1, 3));
        Check.due("base of 2", 1, x.version(2, 3));
        Check.due("base of 3", 0, x.version(3, 3));
        Check.about("10: the version 0 is stored whole");
        x = Check.chain("0=1");
        x.storeWhole(1);
        x.rebase(0, 1);
        x.optimize();
        Check.due("base of 0", StepVersions.NONE, x.version(0, 3));
        Check.about("10: this is an act");
        Check.due("states", 4, x.count(12));
        x.undo();
        Check.due("undone", 1, x.version(0, 3));
    }

    private static void optimizeLowest() {
        Check.about("10: of several, the base with the lowest number");
        StepVersions x = whole("0=1", "0=2", "0=3");
        Check.due("all one apart", 1000 + 48 - 21, x.optimize());
        Check.due("base of 2", 0, x.version(2, 3));
        Check.due("base of 3", 0, x.version(3, 3));
        x = Check.chain("0=1", "0=2", "0=3");
        Check.due("in a row before", 1000, x.optimize());
        Check.due("base of 3", 0, x.version(3, 3));
        x = whole(SIX, "6=1", "6=2,7=1", "6=3");
        x.optimize();
        Check.due("two from 1 and 2: base of 3", 1, x.version(3, 3));
        Check.due("one from 3 alone: base of 4", 3, x.version(4, 3));
    }

    private static void optimizeLowerNumbers() {
        Check.about("10: a present version with a lower number");
        StepVersions x = whole(SIX, "0=0,1=0,2=0,3=0,4=0,5=0");
        Check.due("2 is as 0", 1000 + 36 - 25, x.optimize());
        Check.due("base of 1", StepVersions.NONE, x.version(1, 3));
        Check.due("base of 2", 0, x.version(2, 3));
        x = whole(SIX, "6=1");
        Check.due("1 is near 2", 1000 + 36 - 27, x.optimize());
        Check.due("1 stays whole", StepVersions.NONE, x.version(1, 3));
        Check.due("2 is by 1", 1, x.version(2, 3));
        Check.about("10: a present one, so none that is gone");
        x = whole(SIX, "6=1");
        x.drop(1);
        Check.due("1 is gone", 2, x.version(1, 0));
        Check.due("nothing is near 2", StepVersions.NONE, x.optimize());
        x = whole("0=1", SIX, "0=2");
        x.drop(2);
        Check.due("2 is gone", 1000 + 36 - (12 + 3 + 12), x.optimize());
        Check.due("3 is whole", StepVersions.NONE, x.version(3, 3));
    }

    private static void optimizeSteps() {
        Check.about("10: whose steps are less than the limit");
        StepVersions x = Check.chain("0=1", "1=1", "2=1", "3=1");
        x.storeWhole(4);
        Check.due("4 steps with 4", 1000 + 12 - 3, x.optimize());
        Check.due("base of 4", 3, x.version(4, 3));
        Check.commit(x, 0, "4=1");
        Check.due("5 steps with 4", 1000 + 12 - 5, x.optimize());
        Check.due("base of 5", 3, x.version(5, 3));
        Check.due("most steps", 4, x.count(8));
        x = whole("0=1", "1=1");
        x.setLimit(1);
        Check.due("with 1", 1000 + 36 - (12 + 3 + 5), x.optimize());
        Check.due("base of 2", 0, x.version(2, 3));
        Check.about("10: as it is stored by then");
        x = Check.chain("0=1", "0=0,3=3", "4=4");
        x.storeWhole(3);
        x.setLimit(2);
        Check.due("2 has 2 steps before", 1000 + (12 + 3 + 5 + 12) - (12 + 3 + 3 + 3), x.optimize());
        Check.due("base of 2", 0, x.version(2, 3));
        Check.due("base of 3", 2, x.version(3, 3));
        x = whole("0=1,1=1,2=1", "3=1", "4=1", "5=1", "6=1");
        x.optimize();
        Check.due("3 steps by then", 3, x.version(3, 4));
        Check.due("4 steps by then", 4, x.version(4, 4));
        Check.due("4 is too far by then", 3, x.version(5, 3));
    }

    private static void optimizeHidden() {
        Check.about("10: stores all present versions anew, hidden ones, too");
        StepVersions x = Check.chain("0=1,1=1", "0=0,1=0,3=3", "4=4");
        x.drop(2);
        Check.due("hidden one by another base", 1000 + 12 + 5 + 7 + 3 - (12 + 5 + 3 + 3),
                x.optimize());
        Check.due("its base", 0, x.version(2, 3));
        Check.due("hidden still", 1, x.version(2, 0));
        Check.about("10: hidden versions that are no base behind all this are gone then");
        x = Check.chain("0=1,1=1,2=1", "0=0,1=0,3=3");
        x.drop(1);
        Check.due("one that is no base", 1000 + 12 + 7 + 7 - (12 + 5), x.optimize());
        Check.due("gone", 2, x.version(1, 0));
        x = Check.chain("0=1,1=1,2=1,3=1", "4=1", "0=0,1=0,2=0,3=0,4=0,5=1");
        x.storeWhole(3);
        x.rebase(3, 2);
        x.drop(1);
        x.drop(2);
        Check.due("and its base", 1000 + 12 + 9 + 3 + 13 - (12 + 3), x.optimize());
        Check.due("both gone", 2, x.count(3));
    }

    private static void optimizeReturns() {
        Check.about("10: by how much the cost of all versions becomes less, plus 1000");
        StepVersions x = Check.chain(FIVE, FIVE.replace("=1", "=0") + ",5=1,6=1,7=1,8=1,9=1");
        x.storeWhole(1);
        x.storeWhole(2);
        x.rebase(0, 1);
        Check.due("from 12 + 11 + 12 to 12 + 11 + 11", 1001, x.optimize());
        // The versions 0 and 1 are five apart from 2, ten from one another.
        x = Check.chain("0=1,1=1,2=1,3=1,4=1,5=1,6=1,7=1,8=1,9=1", "0=0,1=0,2=0,3=0,4=0");
        x.storeWhole(2);
        x.rebase(0, 2);
        x.rebase(1, 2);
        Check.due("all by the last one", 34, x.count(6));
        Check.about("10: it may become more");
        Check.due("from 34 to 35", 999, x.optimize());
        Check.due("cost", 35, x.count(6));
    }

    private static StepVersions spoiled(int version) {
        StepVersions x = whole("0=1", "0=2");
        x.spoil(version);
        return x;
    }

    private static void optimizeSpoiled() {
        Check.about("10: SPOILED if any present version cannot be read");
        for (int version = 0; version <= 2; version++) {
            int which = version;
            Check.refused("spoiled " + which, StepVersions.SPOILED, () -> spoiled(which),
                    StepVersions::optimize);
        }
        Check.about("10: a hidden one, too");
        StepVersions x = Check.chain("0=1", "0=2", "0=3");
        x.drop(1);
        x.spoil(1);
        Check.due("hidden", StepVersions.SPOILED, x.optimize());
        Check.about("10: but not one that is gone");
        x = spoiled(1);
        x.drop(1);
        Check.due("gone", 1000 + 24 - 15, x.optimize());
        Check.about("10: SPOILED before NONE");
        x = new StepVersions();
        x.spoil(0);
        Check.due("the version 0", StepVersions.SPOILED, x.optimize());
    }

    private static void optimizeNone() {
        Check.about("10: NONE if all are stored so already");
        Check.refused("new", StepVersions.NONE, StepVersions::new, StepVersions::optimize);
        Check.refused("as committed", StepVersions.NONE, () -> Check.chain("0=1", "1=1", "2=1"),
                StepVersions::optimize);
        Check.refused("again", StepVersions.NONE, () -> {
            StepVersions x = Check.chain("0=1", "0=2", "0=3");
            x.optimize();
            return x;
        }, StepVersions::optimize);
        Check.refused("with a hidden base", StepVersions.NONE, () -> {
            StepVersions x = Check.chain("0=1", "1=1");
            x.drop(1);
            return x;
        }, StepVersions::optimize);
        Check.refused("with one that is gone", StepVersions.NONE, () -> {
            StepVersions x = Check.chain("0=1", "0=2");
            x.rebase(2, 0);
            x.drop(1);
            return x;
        }, StepVersions::optimize);
        Check.about("10: no NONE if only one is stored otherwise");
        StepVersions x = Check.chain(SIX);
        x.rebase(0, 1);
        Check.due("the version 0", 1001, x.optimize());
        Check.due("whole", StepVersions.NONE, x.version(0, 3));
        Check.about("10: no NONE if one is stored by another base of the same cost");
        Check.due("the last one", 1000, Check.chain("0=1", "0=2").optimize());
    }

    // ---- promise 23

    private static void bestBaseFewest() {
        Check.about("23: that with the fewest fields that differ");
        StepVersions x = Check.chain("0=1,1=1,2=1", "0=0,1=0", "3=3");
        Check.due("one from 2", 2, x.bestBase(3));
        Check.due("one from 0", 0, x.bestBase(2));
        Check.about("23: of several that of the lowest number");
        x = Check.chain("0=1", "0=2", "0=3");
        Check.due("one from 0, 1 and 2", 0, x.bestBase(3));
        x.drop(0);
        Check.about("23: of all present versions, so hidden ones, too");
        Check.due("hidden", 0, x.bestBase(3));
        x.storeWhole(1);
        Check.due("gone", 2, x.version(0, 0));
        Check.due("one from 1 and 2", 1, x.bestBase(3));
        Check.about("23: it may be the base that it has");
        x = Check.chain("0=1");
        Check.due("its base", 0, x.bestBase(1));
        Check.about("23: one with a higher number, too");
        x = Check.chain(SIX, "6=1");
        x.storeWhole(2);
        Check.due("of 1", 2, x.bestBase(1));
        Check.about("23: of a hidden version");
        x = Check.chain("0=1", "1=1");
        x.drop(1);
        Check.due("hidden", 0, x.bestBase(1));
        Check.about("23: no act");
        Check.due("states", 3, x.count(12));
    }

    private static void bestBaseLessThanTwelve() {
        Check.about("23: NONE if there is none by which it would cost less than 12");
        Check.due("5 differ", 0, Check.chain(FIVE).bestBase(1));
        Check.due("6 differ", StepVersions.NONE, Check.chain(SIX).bestBase(1));
        StepVersions x = Check.chain(SIX);
        x.rebase(1, 0);
        Check.due("though it is stored so", StepVersions.NONE, x.bestBase(1));
        Check.due("alone", StepVersions.NONE, new StepVersions().bestBase(0));
        x = Check.chain("0=1", "0=0");
        Check.due("no field differs", 0, x.bestBase(2));
    }

    private static void bestBaseThatCanBeRead() {
        Check.about("23: of all that can be read");
        StepVersions x = Check.chain("0=1,1=1", "2=1", "3=1");
        x.storeWhole(3);
        Check.due("the nearest", 2, x.bestBase(3));
        x.spoil(2);
        Check.due("the next one", 1, x.bestBase(3));
        x.spoil(1);
        Check.due("the first one", 0, x.bestBase(3));
        x.undo();
        x.undo();
        x.spoil(1);
        Check.due("one behind a spoiled one cannot", 0, x.bestBase(3));
        x.spoil(0);
        Check.due("none can", StepVersions.NONE, x.bestBase(3));
    }

    private static void bestBaseOnWhoseWayItIsNot() {
        Check.about("23: on whose way it is not");
        StepVersions x = Check.chain("0=1", "0=2", "0=3");
        Check.due("on the way of all", StepVersions.NONE, x.bestBase(0));
        Check.due("on the way of 2 and 3", 0, x.bestBase(1));
        x.storeWhole(2);
        Check.due("2 and 3 have another way", 2, x.bestBase(0));
        x.storeWhole(3);
        x.rebase(2, 0);
        Check.due("only 3 has", 3, x.bestBase(0));
    }

    private static void bestBaseWithinTheLimit() {
        Check.about("23: by which no version would have more steps than the limit");
        StepVersions x = Check.chain("0=1", "1=1", "2=1", "3=1");
        x.moveHead(0, 0);
        Check.commit(x, 0, "0=1,1=1,2=1,3=1,4=1");
        Check.due("5 steps with 4", 3, x.bestBase(5));
        x.setLimit(5);
        Check.due("5 steps with 5", 4, x.bestBase(5));
        x.setLimit(4);
        Check.commit(x, 0, "5=1");
        Check.due("one behind it: 5 steps with 4", 2, x.bestBase(5));
        Check.commit(x, 0, "6=1");
        Check.due("two behind it: 5 steps with 4", 1, x.bestBase(5));
        Check.due("that one itself: 5 steps with 4", 5, x.bestBase(6));
        Check.due("the last one", 6, x.bestBase(7));
        x = Check.chain("0=1");
        x.storeWhole(1);
        x.setLimit(1);
        Check.due("1 step with 1", 0, x.bestBase(1));
        x = Check.chain("0=1", "0=2");
        x.storeWhole(1);
        x.setLimit(1);
        Check.due("one behind it: 2 steps with 1", StepVersions.NONE, x.bestBase(1));
    }

    private static StepVersions three() {
        return Check.chain("0=1", "0=2");
    }

    private static void bestBaseUnknown() {
        Check.about("23: UNKNOWN if there is no such version");
        for (int version : NO_VERSIONS) {
            Check.due("bestBase(" + version + ")", StepVersions.UNKNOWN,
                    three().bestBase(version));
        }
        StepVersions x = three();
        x.rebase(2, 0);
        x.drop(1);
        Check.due("gone", StepVersions.UNKNOWN, x.bestBase(1));
        x.spoil(0);
        Check.about("23: UNKNOWN before SPOILED");
        Check.due("gone", StepVersions.UNKNOWN, x.bestBase(1));
    }

    private static void bestBaseSpoiled() {
        Check.about("23: SPOILED if the version cannot be read");
        StepVersions x = three();
        x.spoil(2);
        Check.due("itself", StepVersions.SPOILED, x.bestBase(2));
        x.undo();
        x.spoil(0);
        Check.due("on its way", StepVersions.SPOILED, x.bestBase(2));
        Check.about("23: SPOILED before NONE");
        Check.due("the version 0", StepVersions.SPOILED, x.bestBase(0));
        Check.due("states", 3, x.count(12));
    }
}
