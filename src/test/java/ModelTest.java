import java.util.TreeMap;

/** Long mixed runs of calls, each answer compared with the model's. */
public final class ModelTest {
    private static final int RUNS = 600;
    private static final int CALLS = 512;

    private long seed;
    private StepVersions x;
    private Model model;
    private final TreeMap<String, Integer> answers = new TreeMap<>();

    public static void main(String[] args) {
        ModelTest test = new ModelTest();
        for (int run = 1; run <= RUNS; run++) {
            test.run(run);
        }
        if (args.length > 0) {
            System.out.println(test.answers);
        }
        Check.end();
    }

    /** Numbers that are the same in each run of the test. */
    private int pick(int bound) {
        seed = seed * 6364136223846793005L + 1442695040888963407L;
        return (int) ((seed >>> 33) % bound);
    }

    private void run(int run) {
        seed = run;
        x = new StepVersions();
        model = new Model();
        int calls = 0;
        while (calls < CALLS) {
            calls += pick(3) == 0 ? newText() : 0;
            step(run, calls);
            calls++;
        }
        due(run, calls, "told", told(true), told(false));
    }

    private int told(boolean ofModel) {
        int told = 0;
        for (int v = 0; v < 40; v++) {
            for (int what = 0; what < 8; what++) {
                told = told * 31 + (ofModel ? model.version(v, what) : x.version(v, what));
            }
            for (int field = 0; field < 12; field++) {
                told = told * 31 + (ofModel ? model.read(v, field) : x.read(v, field));
            }
        }
        for (int what = 0; what < 14; what++) {
            told = told * 31 + (ofModel ? model.count(what) : x.count(what));
        }
        return told;
    }

    private void due(int run, int call, String what, int want, int got) {
        if (want != got) {
            Check.due("run " + run + ", call " + call + ": " + what, want, got);
        }
    }

    private int newText() {
        StringBuilder row = new StringBuilder();
        int edits = pick(8) == 0 ? 8 : 1 + pick(3);
        for (int edit = 0; edit < edits; edit++) {
            row.append(edit > 0 ? "," : "").append(pick(pick(3) == 0 ? 12 : 4)).append('=');
            row.append(pick(pick(3) == 0 ? 100 : 3));
        }
        if (pick(12) == 0) {
            row.insert(pick(row.length() + 1), "0123456789=,a ".charAt(pick(14)));
        }
        if (pick(12) == 0) {
            row.deleteCharAt(pick(row.length()));
        }
        typeAll(row.toString());
        return 1;
    }

    private int anyVersion() {
        int made = model.count(0);
        return pick(12) == 0 ? pick(made + 3) - 1 : made - 1 - pick(Math.min(made, 12));
    }

    private int anyHead() {
        return pick(12) == 0 ? pick(6) - 1 : pick(model.count(4));
    }

    private void step(int run, int call) {
        int kind = pick(48);
        int v = anyVersion();
        int w = anyVersion();
        int h = anyHead();
        int g = anyHead();
        if (kind < 12) {
            answer(run, call, "commit", model.commit(h), x.commit(h));
        } else if (kind < 14) {
            answer(run, call, "fork", model.fork(v), x.fork(v));
        } else if (kind < 18) {
            answer(run, call, "moveHead", model.moveHead(h, v), x.moveHead(h, v));
        } else if (kind < 21) {
            answer(run, call, "merge", model.merge(h, g), x.merge(h, g));
        } else if (kind < 26) {
            answer(run, call, "drop", model.drop(v), x.drop(v));
        } else if (kind < 28) {
            answer(run, call, "storeWhole", model.storeWhole(v), x.storeWhole(v));
        } else if (kind < 32) {
            answer(run, call, "rebase", model.rebase(v, w), x.rebase(v, w));
        } else if (kind < 34) {
            int limit = pick(11) - 1;
            answer(run, call, "setLimit", model.setLimit(limit), x.setLimit(limit));
        } else if (kind < 35) {
            answer(run, call, "optimize", model.optimize(), x.optimize());
        } else if (kind < 37) {
            spoilOrMend(run, call, v, w);
        } else if (kind < 39) {
            historyStep(run, call);
        } else {
            tell(run, call, kind, v, w);
        }
    }

    private void spoilOrMend(int run, int call, int v, int w) {
        if (pick(3) == 0) {
            answer(run, call, "spoil", model.spoil(v), x.spoil(v));
            return;
        }
        int kind = pick(4);
        if (kind > 0) {
            int from = kind == 3 ? w : model.version(v, 1);
            typeDifference(v, from);
            answer(run, call, "mend", model.mend(v, from), x.mend(v, from));
        } else {
            answer(run, call, "mend", model.mend(v, w), x.mend(v, w));
        }
    }

    /** Types the edits that lead from one version to another, if the text has room for them. */
    private void typeDifference(int version, int from) {
        StringBuilder row = new StringBuilder();
        for (int field = 0; field < 12; field++) {
            int value = model.sealed(version, field);
            if (value != model.sealed(from, field)) {
                row.append(row.length() > 0 ? "," : "").append(field).append('=').append(value);
            }
        }
        typeAll(row.length() == 0 ? "0=" + model.sealed(version, 0) : row.toString());
    }

    private void typeAll(String row) {
        due(0, 0, "clearText", model.clearText(), x.clearText());
        for (int i = 0; i < row.length(); i++) {
            due(0, 0, "type", model.type(row.charAt(i)), x.type(row.charAt(i)));
        }
    }

    private void historyStep(int run, int call) {
        int kind = pick(12);
        if (kind < 8) {
            answer(run, call, "undo", model.undo(), x.undo());
        } else if (kind < 11) {
            answer(run, call, "keep", model.keep(), x.keep());
        } else {
            answer(run, call, "restore", model.restore(), x.restore());
        }
    }

    private void tell(int run, int call, int kind, int v, int w) {
        int what = pick(17) - 1;
        int h = anyHead();
        int g = anyHead();
        switch (kind) {
            case 39:
                answer(run, call, "read", model.read(v, what), x.read(v, what));
                break;
            case 40:
                answer(run, call, "version", model.version(v, what), x.version(v, what));
                break;
            case 41:
                answer(run, call, "why", model.why(v, what % 5), x.why(v, what % 5));
                break;
            case 42:
                answer(run, call, "way", model.way(v, what), x.way(v, what));
                break;
            case 43:
                answer(run, call, "differ", model.differ(v, w), x.differ(v, w));
                break;
            case 44:
                answer(run, call, "bestBase", model.bestBase(v), x.bestBase(v));
                break;
            case 45:
                answer(run, call, "common", model.common(h, g), x.common(h, g));
                break;
            case 46:
                answer(run, call, "head", model.head(h), x.head(h));
                break;
            default:
                answer(run, call, "count", model.count(what), x.count(what));
        }
        due(run, call, "told", told(true), told(false));
    }

    private void answer(int run, int call, String what, int want, int got) {
        String sort = what + (want >= 0 ? " fine" : want <= -100 ? " fault" : " " + want);
        answers.merge(sort, 1, Integer::sum);
        due(run, call, what, want, got);
    }
}
