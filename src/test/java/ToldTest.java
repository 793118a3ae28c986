/** Promises 19, 21, 22 and 26: version, way, differ, count. */
public final class ToldTest {
    public static void main(String[] args) {
        versions();
        ways();
        differences();
        counts();
        Check.end();
    }

    private static void told(StepVersions x, int version, int... want) {
        for (int what = 0; what < want.length; what++) {
            Check.due("version " + version + ", " + what, want[what], x.version(version, what));
        }
    }

    private static void versions() {
        int none = StepVersions.NONE;
        StepVersions x = Check.chain("0=1,1=1", "0=2");
        x.fork(1);
        Check.commit(x, 1, "1=2");
        x.merge(0, 1);
        told(x, 0, 0, none, none, none, 0, 12, 1, 0);
        told(x, 1, 0, 0, none, 0, 1, 5, 2, 0);
        told(x, 2, 0, 1, none, 1, 2, 3, 1, 0);
        told(x, 3, 0, 1, none, 1, 2, 3, 0, 0);
        told(x, 4, 0, 2, 3, 2, 3, 3, 0, 0);
        x.drop(1);
        x.spoil(2);
        told(x, 1, 1, 0, none, 0, 1, 5, 2, 0);
        told(x, 2, 0, 1, none, 1, 2, 3, 1, 1);
        x.moveHead(0, 3);
        x.drop(2);
        x.drop(4);
        told(x, 4, 2, 2, 3, none, none, 0, 0, 0);
        told(x, 2, 2, 1, none, none, none, 0, 0, 0);
        told(x, 1, 1, 0, none, 0, 1, 5, 1, 0);
        Check.due("unknown", StepVersions.UNKNOWN, x.version(5, 0));
        Check.due("negative", StepVersions.UNKNOWN, x.version(-1, 0));
        Check.due("unknown before bad", StepVersions.UNKNOWN, x.version(5, 8));
        Check.due("bad", StepVersions.BAD_VALUE, x.version(0, 8));
        Check.due("bad", StepVersions.BAD_VALUE, x.version(0, -1));
        Check.due("bad of a gone one", StepVersions.BAD_VALUE, x.version(4, 8));
    }

    private static void ways() {
        StepVersions x = Check.chain("0=1", "0=2", "0=3");
        x.rebase(3, 1);
        Check.due("itself", 3, x.way(3, 0));
        Check.due("its base", 1, x.way(3, 1));
        Check.due("the whole one", 0, x.way(3, 2));
        Check.due("no further", StepVersions.NONE, x.way(3, 3));
        Check.due("far", StepVersions.NONE, x.way(3, Integer.MAX_VALUE));
        Check.due("of the whole one", StepVersions.NONE, x.way(0, 1));
        Check.due("negative step", StepVersions.BAD_VALUE, x.way(3, -1));
        Check.due("unknown", StepVersions.UNKNOWN, x.way(4, 0));
        Check.due("negative", StepVersions.UNKNOWN, x.way(-1, 0));
        Check.due("unknown before bad", StepVersions.UNKNOWN, x.way(4, -1));
        x.spoil(3);
        x.drop(1);
        Check.due("spoiled, by a hidden one", 1, x.way(3, 1));
        Check.due("of a hidden one", 0, x.way(1, 1));
        x.moveHead(0, 0);
        x.drop(3);
        Check.due("of a gone one", StepVersions.UNKNOWN, x.way(3, 0));
    }

    private static void differences() {
        StepVersions x = Check.chain("0=1,1=1", "0=2,5=5", "0=0,1=0,5=0");
        Check.due("two", 2, x.differ(0, 1));
        Check.due("two", 2, x.differ(1, 2));
        Check.due("three", 3, x.differ(2, 0));
        Check.due("none", 0, x.differ(0, 3));
        Check.due("itself", 0, x.differ(2, 2));
        Check.due("unknown", StepVersions.UNKNOWN, x.differ(4, 0));
        Check.due("unknown", StepVersions.UNKNOWN, x.differ(0, 4));
        Check.due("negative", StepVersions.UNKNOWN, x.differ(-1, 0));
        Check.due("negative", StepVersions.UNKNOWN, x.differ(0, -1));
        x.drop(1);
        Check.due("hidden", 2, x.differ(1, 0));
        x.spoil(2);
        Check.due("spoiled", StepVersions.SPOILED, x.differ(2, 0));
        Check.due("spoiled", StepVersions.SPOILED, x.differ(0, 3));
        Check.due("unknown before spoiled", StepVersions.UNKNOWN, x.differ(2, 4));
        x = Check.chain("0=1,1=1,2=1,3=1,4=1,5=1,6=1,7=1,8=1,9=1,10=1,11=1");
        Check.due("all", 12, x.differ(0, 1));
    }

    private static void counts() {
        StepVersions x = Check.chain("0=1", "0=2", "0=3", "0=4,1=1,2=2,3=3,4=4,5=5");
        x.fork(3);
        Check.commit(x, 1, "0=9");
        x.merge(0, 1);
        x.drop(1);
        x.fork(5);
        x.moveHead(0, 0);
        x.drop(6);
        x.setLimit(5);
        x.spoil(3);
        int[] want = {7, 5, 1, 1, 3, 5, 36, 2, 4, 2, 1, 1, 4, 3};
        for (int what = 0; what < want.length; what++) {
            Check.due("count " + what, want[what], x.count(what));
        }
        Check.due("bad", StepVersions.BAD_VALUE, x.count(14));
        Check.due("bad", StepVersions.BAD_VALUE, x.count(-1));
    }
}
