/** The boundary cases of promises 11, 12, 18 and 20: spoil, mend, read, why. */
public final class SpoiledEdgesTest {
    private static final int[] NO_VERSIONS =
            {Integer.MIN_VALUE, -5, -1, 4, 5, 39, 40, 41, Integer.MAX_VALUE};

    public static void main(String[] args) {
        spoilReturns();
        spoilUnknown();
        spoilNone();
        mendReturns();
        mendWithTheText();
        mendBySeal();
        mendUnknown();
        mendBadValue();
        mendFault();
        mendSpoiled();
        mendNotPossible();
        mendNone();
        readReturns();
        readUnknown();
        readSpoiled();
        whyReturns();
        whyUnknown();
        whyBadValue();
        whyNone();
        Check.end();
    }

    private static StepVersions four() {
        return Check.chain("0=1", "0=2", "0=3");
    }

    /** Version 1 is gone, 2 is upon 0, 3 upon 2. */
    private static StepVersions gone() {
        StepVersions x = four();
        x.rebase(2, 0);
        x.drop(1);
        return x;
    }

    private static StepVersions spoiled(int version, String text) {
        StepVersions x = four();
        x.spoil(version);
        Check.text(x, text);
        return x;
    }

    // ---- promise 11

    private static void spoilReturns() {
        Check.about("11: returns how many present versions cannot be read then");
        Check.due("the last one", 1, four().spoil(3));
        Check.due("one between", 2, four().spoil(2));
        Check.due("the version 0", 4, four().spoil(0));
        StepVersions x = four();
        x.spoil(1);
        Check.due("one that cannot be read already", 3, x.spoil(2));
        Check.due("one before it", 4, x.spoil(0));
        Check.about("11: this is an act");
        Check.due("states", 4, x.count(12));
        x.undo();
        Check.due("undone", 0, x.version(0, 7));
        Check.due("unreadable", 3, x.count(9));
        Check.about("11: present ones, so hidden ones, too, and none that is gone");
        x = four();
        x.drop(2);
        Check.due("a hidden one", 2, x.spoil(2));
        x = four();
        x.drop(1);
        Check.due("with a hidden one behind it", 4, x.spoil(0));
        x = gone();
        Check.due("without the one that is gone", 3, x.spoil(0));
        Check.about("Spoiled: can be read if the data of no version on its way is spoiled");
        x = four();
        x.storeWhole(2);
        Check.due("behind it no more", 1, x.spoil(1));
        Check.due("behind it still", 3, x.read(3, 0));
        Check.about("Spoiled: a new version's data is not spoiled");
        x = Check.chain("0=1");
        x.spoil(1);
        x.undo();
        x.undo();
        Check.due("the number is used again", 1, Check.commit(x, 0, "0=2"));
        Check.due("spoiled", 0, x.version(1, 7));
    }

    private static void spoilUnknown() {
        Check.about("11: UNKNOWN if there is no such version");
        for (int version : NO_VERSIONS) {
            Check.refused("spoil(" + version + ")", StepVersions.UNKNOWN, SpoiledEdgesTest::four,
                    x -> x.spoil(version));
        }
        Check.refused("gone", StepVersions.UNKNOWN, SpoiledEdgesTest::gone, x -> x.spoil(1));
    }

    private static void spoilNone() {
        Check.about("11: NONE if it is spoiled already");
        Check.refused("the last one", StepVersions.NONE, () -> spoiled(3, ""), x -> x.spoil(3));
        Check.refused("the version 0", StepVersions.NONE, () -> spoiled(0, ""), x -> x.spoil(0));
        Check.about("11: no NONE if it only cannot be read");
        Check.due("behind a spoiled one", 3, spoiled(1, "").spoil(3));
    }

    // ---- promise 12

    private static void mendReturns() {
        Check.about("12: returns how many present versions cannot be read then");
        StepVersions x = spoiled(1, "0=1");
        Check.due("none", 0, x.mend(1, 0));
        Check.about("12: it is stored whole");
        Check.due("base", StepVersions.NONE, x.version(1, 3));
        Check.due("cost", 12, x.version(1, 5));
        Check.due("not spoiled", 0, x.version(1, 7));
        Check.due("field", 1, x.read(1, 0));
        Check.due("behind it", 3, x.read(3, 0));
        x = spoiled(1, "0=1");
        x.spoil(2);
        Check.due("two are left", 2, x.mend(1, 0));
        x = spoiled(3, "0=3");
        x.drop(2);
        Check.due("by a hidden one", 0, x.mend(3, 2));
        x = spoiled(2, "0=2");
        x.drop(2);
        Check.due("a hidden one", 0, x.mend(2, 0));
        Check.about("12: one on whose way others are spoiled, too");
        x = Check.chain("0=1", "0=2", "0=3,1=1,2=1,3=1,4=1,5=1");
        Check.due("whole", StepVersions.NONE, x.version(3, 3));
        x.spoil(0);
        x.spoil(2);
        Check.text(x, "0=2,1=0,2=0,3=0,4=0,5=0");
        Check.due("two are left", 2, x.mend(2, 3));
        Check.about("12: one that was stored whole");
        Check.text(x, "0=0,1=0,2=0,3=0,4=0,5=0");
        Check.due("the version 0", 0, x.mend(0, 3));
        Check.about("12: this is an act");
        Check.due("states", 4, x.count(12));
        x.undo();
        Check.due("undone", 2, x.count(9));
        Check.due("spoiled again", 1, x.version(0, 7));
    }

    private static void mendWithTheText() {
        Check.about("12: the fields of another version, with the edits of the text, which stays");
        StepVersions x = spoiled(2, "11=5,0=7,0=2,11=0");
        Check.due("the later edits count", 0, x.mend(2, 1));
        Check.due("length", 17, x.count(13));
        Check.due("committed then", StepVersions.NONE, Check.commit(x, 0, "0=3"));
        x = Check.chain("0=1,1=7,11=8", "0=2");
        x.spoil(2);
        Check.text(x, "0=2");
        Check.due("fields without an edit", 0, x.mend(2, 1));
        x.spoil(1);
        Check.text(x, "0=1");
        Check.due("by one with a higher number", 0, x.mend(1, 2));
        Check.due("edits that change nothing", 0, mended("0=1", "0=1"));
        Check.due("the other one stays", 2, x.read(2, 0));
    }

    private static int mended(String texts, String proposal) {
        StepVersions x = Check.chain(texts, "0=2", "0=1");
        x.storeWhole(3);
        x.spoil(3);
        Check.text(x, proposal);
        return x.mend(3, 1);
    }

    private static void mendBySeal() {
        Check.about("Spoiled: a seal, by which it is known of any 12 values, also if unreadable");
        for (int field = 0; field < 12; field++) {
            String edits = field == 0 ? "0=1" : "0=1," + field + "=4";
            Check.refused("field " + field + " is another one", StepVersions.NOT_POSSIBLE,
                    () -> spoiled(2, edits), x -> x.mend(2, 1));
        }
        Check.about("Storing: storing a version whole makes its data anew");
        StepVersions x = spoiled(2, "0=2");
        x.mend(2, 1);
        x.spoil(0);
        Check.due("it needs no base", 2, x.read(2, 0));
        x.spoil(2);
        Check.due("it can be spoiled again", StepVersions.SPOILED, x.read(2, 0));
        Check.text(x, "0=2");
        Check.due("by one that cannot be read", StepVersions.SPOILED, x.mend(2, 1));
    }

    private static void mendUnknown() {
        Check.about("12: UNKNOWN if there is no such version or other");
        for (int version : NO_VERSIONS) {
            Check.refused("mend(" + version + ", 0)", StepVersions.UNKNOWN,
                    () -> spoiled(2, "0=2"), x -> x.mend(version, 0));
            Check.refused("mend(2, " + version + ")", StepVersions.UNKNOWN,
                    () -> spoiled(2, "0=2"), x -> x.mend(2, version));
        }
        Check.refused("gone", StepVersions.UNKNOWN, SpoiledEdgesTest::gone, x -> x.mend(1, 0));
        Check.refused("other gone", StepVersions.UNKNOWN, SpoiledEdgesTest::gone,
                x -> x.mend(2, 1));
        Check.about("12: UNKNOWN before BAD_VALUE");
        Check.due("mend(4, 4)", StepVersions.UNKNOWN, spoiled(2, "0=2").mend(4, 4));
        Check.about("12: UNKNOWN before the fault");
        Check.due("mend(2, 4)", StepVersions.UNKNOWN, spoiled(2, "").mend(2, 4));
        Check.due("mend(4, 2)", StepVersions.UNKNOWN, spoiled(2, "").mend(4, 2));
    }

    private static void mendBadValue() {
        Check.about("12: BAD_VALUE if both are the same");
        Check.refused("a spoiled one", StepVersions.BAD_VALUE, () -> spoiled(2, "0=2"),
                x -> x.mend(2, 2));
        Check.refused("the version 0", StepVersions.BAD_VALUE, () -> spoiled(2, "0=2"),
                x -> x.mend(0, 0));
        Check.about("12: BAD_VALUE before the fault");
        Check.due("without a text", StepVersions.BAD_VALUE, spoiled(2, "").mend(2, 2));
    }

    private static void mendFault() {
        Check.about("12: -100 minus the fault of the text");
        Check.refused("empty", -100, () -> spoiled(2, ""), x -> x.mend(2, 1));
        Check.refused("too early", -104, () -> spoiled(2, "0=2,"), x -> x.mend(2, 1));
        Check.refused("not allowed", -103, () -> spoiled(2, "0=2;"), x -> x.mend(2, 1));
        Check.about("12: the fault before SPOILED");
        Check.due("other cannot be read", -101, spoiled(2, "0").mend(2, 3));
        Check.about("12: the fault before NOT_POSSIBLE");
        Check.due("not its fields", -105, spoiled(2, "0=9,1").mend(2, 1));
        Check.about("12: the fault before NONE");
        Check.due("not spoiled", -103, spoiled(2, "0=0x").mend(0, 1));
    }

    private static void mendSpoiled() {
        Check.about("12: SPOILED if the other one cannot be read");
        Check.refused("behind it", StepVersions.SPOILED, () -> spoiled(2, "0=2"),
                x -> x.mend(2, 3));
        Check.refused("spoiled itself", StepVersions.SPOILED, () -> {
            StepVersions x = spoiled(2, "0=2");
            x.storeWhole(1);
            x.spoil(1);
            return x;
        }, x -> x.mend(2, 1));
        Check.about("12: SPOILED before NOT_POSSIBLE");
        Check.due("not its fields", StepVersions.SPOILED, spoiled(2, "0=9").mend(2, 3));
        Check.about("12: SPOILED before NONE");
        Check.due("not spoiled", StepVersions.SPOILED, spoiled(2, "0=1").mend(1, 2));
    }

    private static void mendNotPossible() {
        Check.about("12: NOT_POSSIBLE if what is proposed are not its fields");
        Check.refused("another value", StepVersions.NOT_POSSIBLE, () -> spoiled(2, "0=3"),
                x -> x.mend(2, 1));
        Check.refused("another field", StepVersions.NOT_POSSIBLE, () -> spoiled(2, "0=2,11=2"),
                x -> x.mend(2, 1));
        Check.refused("a field that is missing", StepVersions.NOT_POSSIBLE,
                () -> spoiled(2, "11=0"), x -> x.mend(2, 1));
        Check.about("12: NOT_POSSIBLE before NONE");
        Check.refused("not spoiled", StepVersions.NOT_POSSIBLE, () -> spoiled(2, "0=9"),
                x -> x.mend(0, 1));
    }

    private static void mendNone() {
        Check.about("12: NONE if its data is not spoiled");
        Check.refused("none is spoiled", StepVersions.NONE, () -> {
            StepVersions x = four();
            Check.text(x, "0=2");
            return x;
        }, x -> x.mend(2, 1));
        Check.refused("it only cannot be read", StepVersions.NONE, () -> spoiled(2, "0=3"),
                x -> x.mend(3, 1));
        Check.refused("again", StepVersions.NONE, () -> {
            StepVersions x = spoiled(2, "0=2");
            x.mend(2, 1);
            return x;
        }, x -> x.mend(2, 1));
    }

    // ---- promise 18

    private static void readReturns() {
        Check.about("18: returns its value");
        StepVersions x = Check.chain("0=99,11=10", "11=0,1=9");
        Check.due("first field", 99, x.read(1, 0));
        Check.due("last field", 10, x.read(1, 11));
        Check.due("first version", 0, x.read(0, 0));
        Check.due("as the parent", 99, x.read(2, 0));
        Check.due("another one", 9, x.read(2, 1));
        Check.due("back to 0", 0, x.read(2, 11));
        Check.about("Versions: their fields never change, however they are stored");
        x.storeWhole(2);
        Check.due("whole", 9, x.read(2, 1));
        x.rebase(2, 0);
        Check.due("by another base", 99, x.read(2, 0));
        x.optimize();
        Check.due("as cheaply as can be", 0, x.read(2, 11));
        Check.about("18: no act");
        Check.due("states", 4, x.count(12));
    }

    private static void readUnknown() {
        Check.about("18: UNKNOWN if there is no such version");
        for (int version : NO_VERSIONS) {
            Check.due("read(" + version + ", 0)", StepVersions.UNKNOWN, four().read(version, 0));
        }
        Check.due("gone", StepVersions.UNKNOWN, gone().read(1, 0));
        Check.about("18: UNKNOWN also if it is hidden");
        StepVersions x = four();
        x.drop(2);
        Check.due("hidden", StepVersions.UNKNOWN, x.read(2, 0));
        Check.about("18: UNKNOWN if there is no such field");
        for (int field : new int[] {Integer.MIN_VALUE, -1, 12, 13, Integer.MAX_VALUE}) {
            Check.due("read(3, " + field + ")", StepVersions.UNKNOWN, x.read(3, field));
        }
        Check.about("18: UNKNOWN before SPOILED");
        x.spoil(0);
        Check.due("hidden", StepVersions.UNKNOWN, x.read(2, 0));
        Check.due("field 12", StepVersions.UNKNOWN, x.read(3, 12));
        Check.due("field -1", StepVersions.UNKNOWN, x.read(3, -1));
    }

    private static void readSpoiled() {
        Check.about("18: SPOILED");
        StepVersions x = spoiled(1, "");
        Check.due("itself", StepVersions.SPOILED, x.read(1, 0));
        Check.due("behind it", StepVersions.SPOILED, x.read(2, 11));
        Check.due("further behind it", StepVersions.SPOILED, x.read(3, 0));
        Check.due("before it", 0, x.read(0, 0));
        x.undo();
        Check.due("undone", 3, x.read(3, 0));
    }

    // ---- promise 20

    private static void whyReturns() {
        Check.about("20: 0 for the version that is to blame");
        StepVersions x = four();
        x.spoil(0);
        Check.due("the last on the way", 0, x.why(3, 0));
        Check.due("itself", 0, x.why(0, 0));
        x.spoil(2);
        x.spoil(1);
        Check.about("Spoiled: the first one on its way (itself first) whose data is spoiled");
        Check.due("first of three", 2, x.why(3, 0));
        Check.due("itself first", 2, x.why(2, 0));
        Check.due("its own way", 1, x.why(1, 0));
        Check.about("20: 1 for how many steps away on the way this is (0 for itself)");
        Check.due("next one", 1, x.why(3, 1));
        Check.due("itself", 0, x.why(2, 1));
        Check.about("20: 2 for how many versions on its way are spoiled");
        Check.due("three", 3, x.why(3, 2));
        Check.due("itself, too", 3, x.why(2, 2));
        Check.due("two", 2, x.why(1, 2));
        Check.due("only itself", 1, x.why(0, 2));
        x.undo();
        x.undo();
        Check.due("three steps", 3, x.why(3, 1));
        Check.about("20: on the way, not by the parents");
        x = four();
        x.rebase(3, 1);
        x.spoil(2);
        x.spoil(0);
        Check.due("not the parent", 0, x.why(3, 0));
        Check.due("two steps", 2, x.why(3, 1));
        Check.due("one", 1, x.why(3, 2));
        Check.about("20: a hidden version, too");
        x = four();
        x.drop(2);
        x.spoil(1);
        Check.due("hidden", 1, x.why(2, 0));
        Check.about("20: no act");
        Check.due("states", 4, x.count(12));
    }

    private static void whyUnknown() {
        Check.about("20: UNKNOWN if there is no such version");
        for (int version : NO_VERSIONS) {
            Check.due("why(" + version + ", 0)", StepVersions.UNKNOWN,
                    spoiled(0, "").why(version, 0));
        }
        Check.due("gone", StepVersions.UNKNOWN, gone().why(1, 0));
        Check.about("20: UNKNOWN before BAD_VALUE");
        Check.due("why(4, 3)", StepVersions.UNKNOWN, four().why(4, 3));
        Check.due("why(-1, -1)", StepVersions.UNKNOWN, four().why(-1, -1));
    }

    private static void whyBadValue() {
        Check.about("20: BAD_VALUE");
        StepVersions x = spoiled(0, "");
        for (int what : new int[] {Integer.MIN_VALUE, -1, 3, 4, Integer.MAX_VALUE}) {
            Check.due("why(3, " + what + ")", StepVersions.BAD_VALUE, x.why(3, what));
        }
        Check.about("20: BAD_VALUE before NONE");
        Check.due("why(3, 3)", StepVersions.BAD_VALUE, four().why(3, 3));
        Check.due("why(3, -1)", StepVersions.BAD_VALUE, four().why(3, -1));
    }

    private static void whyNone() {
        Check.about("20: NONE if it can be read");
        StepVersions x = spoiled(2, "");
        for (int what = 0; what <= 2; what++) {
            Check.due("why(1, " + what + ")", StepVersions.NONE, x.why(1, what));
        }
        x.undo();
        Check.due("undone", StepVersions.NONE, x.why(2, 0));
    }
}
