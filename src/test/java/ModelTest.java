import java.util.TreeMap;

/** Mixed runs of at most 512 calls, each answer compared with the model's. */
public final class ModelTest {
    private static final int RUNS = 6000;
    private static final int CALLS = 512;
    // Clearing, typing 60 characters, an act, and what is told behind it.
    private static final int LONGEST_STEP = 66;

    private long seed;
    private int run;
    private int calls;
    private boolean growing;
    private StepVersions x;
    private Model model;
    private final TreeMap<String, Integer> answers = new TreeMap<>();

    public static void main(String[] args) {
        ModelTest test = new ModelTest();
        for (int run = 1; run <= RUNS; run++) {
            test.compare(run);
        }
        if (args.length > 0) {
            System.out.println(test.answers);
        }
        Check.end();
    }

    /** Numbers that are the same in each run of the test. */
    private int pick(int bound) {
        seed = seed * 6364136223846793005L + 1442695040888963407L;
        return (int) ((seed >>> 33) % bound);
    }

    private void compare(int number) {
        seed = number;
        run = number;
        calls = 0;
        x = new StepVersions();
        model = new Model();
        // Only runs of many commits, with short texts, come to 40 versions.
        growing = pick(3) == 0;
        while (calls + LONGEST_STEP <= CALLS) {
            step();
            if (!growing || pick(4) == 0) {
                tell(pick(14));
                tell(pick(8));
            }
        }
        while (calls < CALLS) {
            tell(pick(14));
        }
    }

    private void answer(String what, int want, int got) {
        calls++;
        String sort = what + (want >= 0 ? " fine" : want <= -100 ? " fault" : " " + want);
        answers.merge(sort, 1, Integer::sum);
        if (want != got) {
            Check.due("run " + run + ", call " + calls + ": " + what, want, got);
        }
    }

    // ---- texts

    private void newText() {
        StringBuilder row = new StringBuilder();
        int edits = growing ? 1 : pick(8) == 0 ? 8 : 1 + pick(2);
        for (int edit = 0; edit < edits; edit++) {
            row.append(edit > 0 ? "," : "").append(pick(pick(3) == 0 ? 12 : 4)).append('=');
            row.append(pick(pick(3) == 0 ? 100 : 3));
        }
        if (pick(12) == 0) {
            row.insert(pick(row.length() + 1), "0123456789=,a ".charAt(pick(14)));
        }
        if (pick(12) == 0) {
            row.deleteCharAt(pick(row.length()));
        }
        typeAll(row.toString());
    }

    /** Types the edits that lead from one version to another, if the text has room for them. */
    private void typeDifference(int version, int from) {
        StringBuilder row = new StringBuilder();
        for (int field = 0; field < 12; field++) {
            int value = model.sealed(version, field);
            if (value != model.sealed(from, field)) {
                row.append(row.length() > 0 ? "," : "").append(field).append('=').append(value);
            }
        }
        typeAll(row.length() == 0 ? "0=" + model.sealed(version, 0) : row.toString());
    }

    private void typeAll(String row) {
        answer("clearText", model.clearText(), x.clearText());
        for (int i = 0; i < row.length() && i < 61; i++) {
            answer("type", model.type(row.charAt(i)), x.type(row.charAt(i)));
        }
    }

    // ---- acts

    private int anyVersion() {
        int made = model.count(0);
        return pick(12) == 0 ? pick(made + 3) - 1 : made - 1 - pick(Math.min(made, 12));
    }

    private int anyHead() {
        return pick(12) == 0 ? pick(6) - 1 : pick(model.count(4));
    }

    private void step() {
        int kind = pick(27 + (growing ? 100 : 12));
        if (kind >= 27) {
            commit();
        } else if (kind < 12) {
            actOfHeads(kind);
        } else {
            actOfStoring(kind);
        }
    }

    private void commit() {
        if (pick(4) > 0) {
            newText();
        }
        int head = anyHead();
        answer("commit", model.commit(head), x.commit(head));
    }

    private void actOfHeads(int kind) {
        int v = anyVersion();
        int h = anyHead();
        int g = anyHead();
        if (kind < 2) {
            answer("fork", model.fork(v), x.fork(v));
        } else if (kind < 5) {
            answer("moveHead", model.moveHead(h, v), x.moveHead(h, v));
        } else if (kind < 8) {
            answer("merge", model.merge(h, g), x.merge(h, g));
        } else {
            answer("drop", model.drop(v), x.drop(v));
        }
    }

    private void actOfStoring(int kind) {
        int v = anyVersion();
        int w = anyVersion();
        if (kind < 14) {
            answer("storeWhole", model.storeWhole(v), x.storeWhole(v));
        } else if (kind < 18) {
            answer("rebase", model.rebase(v, w), x.rebase(v, w));
        } else if (kind < 20) {
            int limit = pick(11) - 1;
            answer("setLimit", model.setLimit(limit), x.setLimit(limit));
        } else if (kind < 22) {
            answer("optimize", model.optimize(), x.optimize());
        } else if (kind < 25) {
            spoilOrMend(v, w);
        } else {
            historyStep();
        }
    }

    private void spoilOrMend(int v, int w) {
        int kind = pick(6);
        if (kind < 2) {
            answer("spoil", model.spoil(v), x.spoil(v));
        } else if (kind == 2) {
            answer("mend", model.mend(v, w), x.mend(v, w));
        } else {
            int from = kind == 3 ? w : model.version(v, 1);
            typeDifference(v, from);
            answer("mend", model.mend(v, from), x.mend(v, from));
        }
    }

    private void historyStep() {
        int kind = pick(12);
        if (kind < 7) {
            answer("undo", model.undo(), x.undo());
        } else if (kind < 10) {
            answer("keep", model.keep(), x.keep());
        } else {
            answer("restore", model.restore(), x.restore());
        }
    }

    // ---- what is told

    private void tell(int kind) {
        int v = anyVersion();
        int w = anyVersion();
        int h = anyHead();
        int g = anyHead();
        int what = pick(17) - 1;
        switch (kind) {
            case 0:
                answer("read", model.read(v, what), x.read(v, what));
                break;
            case 1:
                answer("why", model.why(v, what % 5), x.why(v, what % 5));
                break;
            case 2:
                answer("way", model.way(v, what), x.way(v, what));
                break;
            case 3:
                answer("differ", model.differ(v, w), x.differ(v, w));
                break;
            case 4:
                answer("bestBase", model.bestBase(v), x.bestBase(v));
                break;
            case 5:
                answer("common", model.common(h, g), x.common(h, g));
                break;
            case 6:
                answer("head", model.head(h), x.head(h));
                break;
            case 7:
                answer("count", model.count(what), x.count(what));
                break;
            default:
                answer("version", model.version(v, what % 9), x.version(v, what % 9));
        }
    }
}
