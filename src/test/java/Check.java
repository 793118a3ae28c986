import java.util.function.Supplier;
import java.util.function.ToIntFunction;

/** What the tests share: comparing answers, typing texts, ending with an exit code. */
final class Check {
    private static int wrong = 0;
    private static String sentence = "";

    private Check() {
    }

    /** Names the sentence of the document that the next answers are about. */
    static void about(String words) {
        sentence = words + ": ";
    }

    static void due(String call, long want, long got) {
        if (got != want) {
            wrong++;
            System.out.println(sentence + call + " answered " + got + ", due is " + want);
        }
    }

    /** Puts a text in place of the one that is there. */
    static void text(StepVersions x, String text) {
        x.clearText();
        for (int i = 0; i < text.length(); i++) {
            x.type(text.charAt(i));
        }
    }

    static int commit(StepVersions x, int head, String text) {
        text(x, text);
        return x.commit(head);
    }

    /** Commits a row of texts to the head 0, each of which has to make the next version. */
    static StepVersions chain(String... texts) {
        StepVersions x = new StepVersions();
        for (int i = 0; i < texts.length; i++) {
            due("commit " + texts[i], i + 1, commit(x, 0, texts[i]));
        }
        return x;
    }

    /** Versions 1 and up, each of which is committed with one edit, to the head 0. */
    static StepVersions row(int versions) {
        StepVersions x = new StepVersions();
        for (int version = 1; version <= versions; version++) {
            due("commit", version, commit(x, 0, "7=" + version));
        }
        return x;
    }

    /** All that is told about the state, in one text, by which two states can be compared. */
    static String told(StepVersions x) {
        StringBuilder told = new StringBuilder(counts(x, 11));
        int made = x.count(0);
        for (int version = 0; version < made; version++) {
            told.append('\n');
            for (int what = 0; what <= 7; what++) {
                told.append(x.version(version, what)).append(' ');
            }
            for (int field = 0; field < 12; field++) {
                told.append(x.read(version, field)).append(' ');
            }
        }
        return told.toString();
    }

    private static String counts(StepVersions x, int last) {
        StringBuilder counts = new StringBuilder();
        for (int what = 0; what <= last; what++) {
            counts.append(x.count(what)).append(' ');
        }
        for (int head = 0; head < 4; head++) {
            counts.append(x.head(head)).append(' ');
        }
        return counts.toString();
    }

    static void same(String what, String want, String got) {
        if (!want.equals(got)) {
            wrong++;
            System.out.println(sentence + what + ": the states differ\n" + want + "\n--\n" + got);
        }
    }

    /**
     * Makes an object twice, does the call with one of them alone, which has to answer an error or
     * NONE, and compares what both tell: the state, the text, the history and the snapshot.
     */
    static void refused(String call, int want, Supplier<StepVersions> made,
            ToIntFunction<StepVersions> refusal) {
        StepVersions asked = made.get();
        due(call, want, refusal.applyAsInt(asked));
        StepVersions other = made.get();
        same("after " + call, told(other), told(asked));
        same("text and history after " + call, counts(other, 13), counts(asked, 13));
        due("text after " + call, other.commit(0), asked.commit(0));
        due("snapshot after " + call, other.restore(), asked.restore());
        for (int undo = 0; undo < 5; undo++) {
            due("undo after " + call, other.undo(), asked.undo());
            same("undone after " + call, counts(other, 13), counts(asked, 13));
        }
    }

    static void end() {
        if (wrong != 0) {
            System.out.println(wrong + " answers are not as due");
            System.exit(1);
        }
    }
}
