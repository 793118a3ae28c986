/** What the tests share: comparing answers, typing texts, ending with an exit code. */
final class Check {
    private static int wrong = 0;

    private Check() {
    }

    static void due(String call, long want, long got) {
        if (got != want) {
            wrong++;
            System.out.println(call + " answered " + got + ", due is " + want);
        }
    }

    /** Puts a text in place of the one that is there. */
    static void text(StepVersions x, String text) {
        x.clearText();
        for (int i = 0; i < text.length(); i++) {
            x.type(text.charAt(i));
        }
    }

    static int commit(StepVersions x, int head, String text) {
        text(x, text);
        return x.commit(head);
    }

    /** Commits a row of texts to the head 0, each of which has to make the next version. */
    static StepVersions chain(String... texts) {
        StepVersions x = new StepVersions();
        for (int i = 0; i < texts.length; i++) {
            due("commit " + texts[i], i + 1, commit(x, 0, texts[i]));
        }
        return x;
    }

    /** All that is told about the state, in one text, by which two states can be compared. */
    static String told(StepVersions x) {
        StringBuilder told = new StringBuilder();
        for (int what = 0; what <= 11; what++) {
            told.append(x.count(what)).append(' ');
        }
        for (int head = 0; head < 4; head++) {
            told.append(x.head(head)).append(' ');
        }
        for (int version = 0; version < x.count(0); version++) {
            told.append('\n');
            for (int what = 0; what <= 7; what++) {
                told.append(x.version(version, what)).append(' ');
            }
            for (int field = 0; field < 12; field++) {
                told.append(x.read(version, field)).append(' ');
            }
        }
        return told.toString();
    }

    static void same(String what, String want, String got) {
        if (!want.equals(got)) {
            wrong++;
            System.out.println(what + ": the states differ\n" + want + "\n--\n" + got);
        }
    }

    static void end() {
        if (wrong != 0) {
            System.out.println(wrong + " answers are not as due");
            System.exit(1);
        }
    }
}
