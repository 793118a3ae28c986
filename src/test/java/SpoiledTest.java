/** Promises 11, 12, 18 and 20: spoil, mend, read, why. */
public final class SpoiledTest {
    public static void main(String[] args) {
        spoils();
        newDataIsNotSpoiled();
        mends();
        mendErrors();
        reads();
        reasons();
        Check.end();
    }

    private static void spoils() {
        StepVersions x = Check.chain("0=1", "0=2", "0=3");
        Check.due("spoil", 2, x.spoil(2));
        Check.due("is spoiled", 1, x.version(2, 7));
        Check.due("is not spoiled itself", 0, x.version(3, 7));
        Check.due("unreadable", 2, x.count(9));
        Check.due("again", StepVersions.NONE, x.spoil(2));
        Check.due("states", 4, x.count(12));
        Check.due("behind it", 2, x.spoil(3));
        Check.due("before it", 4, x.spoil(0));
        Check.due("unknown", StepVersions.UNKNOWN, x.spoil(4));
        Check.due("negative", StepVersions.UNKNOWN, x.spoil(-1));
        x = Check.chain("0=1", "0=2");
        x.drop(1);
        Check.due("hidden", 2, x.spoil(1));
        x.moveHead(0, 0);
        Check.due("both gone", 2, x.drop(2));
        Check.due("gone", StepVersions.UNKNOWN, x.spoil(1));
    }

    private static void newDataIsNotSpoiled() {
        StepVersions x = Check.chain("0=1", "0=2");
        x.fork(0);
        x.spoil(2);
        Check.text(x, "0=2");
        Check.due("mend", 0, x.mend(2, 1));
        Check.due("not spoiled", 0, x.version(2, 7));
        x.spoil(1);
        Check.due("stored whole, so readable", 2, x.read(2, 0));
        Check.due("commit", 3, Check.commit(x, 0, "0=3"));
        Check.due("not spoiled", 0, x.version(3, 7));
    }

    private static void mends() {
        StepVersions x = Check.chain("0=1,1=1", "0=2", "0=3");
        x.spoil(1);
        x.spoil(3);
        Check.text(x, "0=1,1=1");
        Check.due("mend", 1, x.mend(1, 0));
        Check.due("text stays", 7, x.count(13));
        Check.due("whole", StepVersions.NONE, x.version(1, 3));
        Check.due("not spoiled", 0, x.version(1, 7));
        Check.due("fields", 1, x.read(1, 0));
        Check.due("states", 4, x.count(12));
        Check.text(x, "0=3");
        Check.due("mend the other", 0, x.mend(3, 2));
        Check.due("whole", StepVersions.NONE, x.version(3, 3));
        x = Check.chain("0=1", "0=2");
        x.spoil(0);
        x.spoil(2);
        Check.due("none can be read", 3, x.count(9));
        Check.due("by none", StepVersions.SPOILED, x.mend(0, 1));
        x = Check.chain("0=1,1=1,2=1,3=1,4=1,5=1");
        x.spoil(0);
        Check.text(x, "0=0,1=0,2=0,3=0,4=0,5=0");
        Check.due("a whole one", 0, x.mend(0, 1));
    }

    private static void mendErrors() {
        StepVersions x = Check.chain("0=1", "0=2", "1=1");
        x.spoil(2);
        Check.text(x, "0=2");
        Check.due("unknown", StepVersions.UNKNOWN, x.mend(4, 0));
        Check.due("unknown other", StepVersions.UNKNOWN, x.mend(2, 4));
        Check.due("negative", StepVersions.UNKNOWN, x.mend(-1, 0));
        Check.due("negative other", StepVersions.UNKNOWN, x.mend(2, -1));
        Check.due("other behind it", StepVersions.SPOILED, x.mend(2, 3));
        Check.text(x, "0=2,");
        Check.due("unknown before same", StepVersions.UNKNOWN, x.mend(5, 5));
        Check.due("same before fault", StepVersions.BAD_VALUE, x.mend(2, 2));
        Check.due("fault before spoiled", -104, x.mend(2, 3));
        Check.due("fault", -104, x.mend(2, 1));
        Check.text(x, "");
        Check.due("empty text", -100, x.mend(2, 1));
        Check.text(x, "0=3");
        Check.due("spoiled before not possible", StepVersions.SPOILED, x.mend(2, 3));
        Check.due("other fields", StepVersions.NOT_POSSIBLE, x.mend(2, 1));
        Check.due("not possible before none", StepVersions.NOT_POSSIBLE, x.mend(0, 1));
        Check.text(x, "0=0");
        Check.due("not spoiled", StepVersions.NONE, x.mend(0, 1));
        Check.text(x, "0=2,1=1");
        Check.due("not spoiled itself", StepVersions.NONE, x.mend(3, 1));
        Check.due("states", 4, x.count(12));
        Check.text(x, "0=2");
        Check.due("mended", 0, x.mend(2, 1));
        Check.due("mended once", StepVersions.NONE, x.mend(2, 1));
    }

    private static void reads() {
        StepVersions x = Check.chain("0=1,11=99", "0=2");
        Check.due("first", 1, x.read(1, 0));
        Check.due("last", 99, x.read(2, 11));
        Check.due("field -1", StepVersions.UNKNOWN, x.read(1, -1));
        Check.due("field 12", StepVersions.UNKNOWN, x.read(1, 12));
        Check.due("version -1", StepVersions.UNKNOWN, x.read(-1, 0));
        Check.due("version 3", StepVersions.UNKNOWN, x.read(3, 0));
        x.spoil(1);
        Check.due("before it", 0, x.read(0, 0));
        Check.due("spoiled", StepVersions.SPOILED, x.read(1, 0));
        Check.due("behind it", StepVersions.SPOILED, x.read(2, 0));
        Check.due("unknown before spoiled", StepVersions.UNKNOWN, x.read(1, 12));
        x.drop(1);
        Check.due("hidden", StepVersions.UNKNOWN, x.read(1, 0));
        x.moveHead(0, 0);
        x.drop(2);
        Check.due("gone", StepVersions.UNKNOWN, x.read(2, 0));
    }

    private static void reasons() {
        StepVersions x = Check.chain("0=1", "0=2", "0=3");
        Check.due("can be read", StepVersions.NONE, x.why(3, 0));
        x.spoil(1);
        x.spoil(0);
        Check.due("to blame", 1, x.why(3, 0));
        Check.due("away", 2, x.why(3, 1));
        Check.due("spoiled", 2, x.why(3, 2));
        Check.due("itself", 1, x.why(1, 0));
        Check.due("itself, away", 0, x.why(1, 1));
        Check.due("itself, spoiled", 2, x.why(1, 2));
        Check.due("the whole one", 0, x.why(0, 0));
        Check.due("the whole one", 1, x.why(0, 2));
        Check.due("unknown", StepVersions.UNKNOWN, x.why(4, 0));
        Check.due("negative", StepVersions.UNKNOWN, x.why(-1, 0));
        Check.due("unknown before bad", StepVersions.UNKNOWN, x.why(4, 3));
        Check.due("bad", StepVersions.BAD_VALUE, x.why(3, 3));
        Check.due("bad", StepVersions.BAD_VALUE, x.why(3, -1));
        Check.due("states", 4, x.count(12));
        x.undo();
        Check.due("one less", 1, x.why(3, 2));
        Check.due("bad before none", StepVersions.BAD_VALUE, x.why(0, 3));
        Check.due("none", StepVersions.NONE, x.why(0, 2));
        x.drop(2);
        Check.due("of a hidden one", 1, x.why(2, 0));
        x.moveHead(0, 0);
        x.drop(3);
        Check.due("of a gone one", StepVersions.UNKNOWN, x.why(3, 0));
    }
}
