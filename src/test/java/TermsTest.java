/**
 * What the terms of the document say of every state, told by the public calls alone: mixed acts,
 * then one look at all versions, within 512 calls an object.
 */
public final class TermsTest {
    private static final int RUNS = 4000;
    private static final int MOST_ACTS = 50;
    private static final int MOST_VERSIONS = 16;
    private static final int CALLS = 512;

    private long seed;
    private int calls;
    private int run;
    private StepVersions x;
    private int made;
    private final int[] kinds = new int[40];
    private final int[] bases = new int[40];
    private final int[] steps = new int[40];
    private final int[] spoiled = new int[40];

    public static void main(String[] args) {
        TermsTest test = new TermsTest();
        for (int run = 1; run <= RUNS; run++) {
            test.act(run);
            test.look();
            if (test.calls > CALLS) {
                Check.due("run " + run + ": calls", CALLS, test.calls);
            }
        }
        Check.end();
    }

    private int pick(int bound) {
        seed = seed * 6364136223846793005L + 1442695040888963407L;
        return (int) ((seed >>> 33) % bound);
    }

    /** Counts a call. */
    private int told(int answer) {
        calls++;
        return answer;
    }

    private void due(String what, int want, int got) {
        if (want != got) {
            Check.due("run " + run + ": " + what, want, got);
        }
    }

    private void holds(String what, boolean truth) {
        due(what, 1, truth ? 1 : 0);
    }

    // ---- acts

    private void act(int number) {
        seed = number;
        run = number;
        calls = 0;
        x = new StepVersions();
        int acts = 1 + pick(MOST_ACTS);
        for (int act = 0; act < acts && told(x.count(0)) < MOST_VERSIONS; act++) {
            step();
        }
    }

    private void step() {
        int newest = told(x.count(0)) - 1;
        int v = newest - pick(Math.min(newest + 1, 6));
        int w = newest - pick(Math.min(newest + 1, 6));
        int heads = told(x.count(4));
        int head = pick(heads);
        switch (pick(26)) {
            case 0 -> told(x.fork(v));
            case 1, 2 -> told(x.moveHead(head, v));
            case 3 -> told(x.merge(head, pick(heads)));
            case 4, 5 -> told(x.drop(v));
            case 6 -> told(x.storeWhole(v));
            case 7, 8 -> told(x.rebase(v, w));
            case 9 -> told(x.setLimit(1 + pick(8)));
            case 10 -> told(x.optimize());
            case 11 -> told(x.spoil(v));
            case 12 -> told(x.mend(v, w));
            case 13 -> historyStep();
            default -> commit(head);
        }
    }

    private void historyStep() {
        int kind = pick(4);
        told(kind == 0 ? x.undo() : kind < 3 ? x.keep() : x.restore());
    }

    private void commit(int head) {
        told(x.clearText());
        told(x.type((char) ('0' + pick(3))));
        told(x.type('='));
        told(x.type((char) ('0' + pick(3))));
        told(x.commit(head));
    }

    // ---- what is told of the state

    private void look() {
        made = told(x.count(0));
        for (int v = 0; v < made; v++) {
            kinds[v] = told(x.version(v, 0));
            bases[v] = told(x.version(v, 3));
            steps[v] = told(x.version(v, 4));
            spoiled[v] = told(x.version(v, 7));
        }
        int cost = 0;
        int unreadable = 0;
        for (int v = 0; v < made; v++) {
            parents(v);
            cost += kinds[v] == 2 ? gone(v) : present(v);
            unreadable += kinds[v] == 2 ? 0 : blame(v);
            due("versions upon " + v, upon(v), told(x.version(v, 6)));
        }
        due("cost of all", cost, told(x.count(6)));
        due("unreadable", unreadable, told(x.count(9)));
        heads();
        counts();
    }

    private void parents(int v) {
        int parent = told(x.version(v, 1));
        int second = told(x.version(v, 2));
        holds("parent of " + v, v == 0 ? parent == StepVersions.NONE : parent >= 0 && parent < v);
        holds("second parent of " + v, second == StepVersions.NONE || second >= 0 && second < v);
    }

    private int gone(int v) {
        due("base of the gone " + v, StepVersions.NONE, bases[v]);
        due("steps of the gone " + v, StepVersions.NONE, steps[v]);
        due("spoiled data of the gone " + v, 0, spoiled[v]);
        due("versions upon the gone " + v, 0, upon(v));
        return told(x.version(v, 5));
    }

    private int present(int v) {
        int cost = told(x.version(v, 5));
        int base = bases[v];
        holds("a hidden one is a base: " + v, kinds[v] == 0 || upon(v) > 0);
        if (base == StepVersions.NONE) {
            due("steps of the whole " + v, 0, steps[v]);
            due("cost of the whole " + v, 12, cost);
            return cost;
        }
        holds("base of " + v + " is another present one", base != v && kinds[base] != 2);
        due("steps of " + v, steps[base] + 1, steps[v]);
        int differ = told(x.differ(v, base));
        if (differ != StepVersions.SPOILED) {
            due("cost of " + v, 1 + 2 * differ, cost);
        }
        return cost;
    }

    /** Compares what why() tells with the way; answers 1 if the version cannot be read. */
    private int blame(int v) {
        int first = StepVersions.NONE;
        int at = v;
        for (int step = 0; step <= steps[v] && first < 0; step++) {
            first = spoiled[at] == 1 ? at : first;
            at = bases[at];
        }
        due("to blame for " + v, first, told(x.why(v, 0)));
        due("end of the way of " + v, StepVersions.NONE, told(x.way(v, steps[v] + 1)));
        return first >= 0 ? 1 : 0;
    }

    private int upon(int v) {
        int upon = 0;
        for (int other = 0; other < made; other++) {
            upon += kinds[other] != 2 && bases[other] == v ? 1 : 0;
        }
        return upon;
    }

    private void heads() {
        int heads = told(x.count(4));
        holds("1 to 4 heads", heads >= 1 && heads <= 4);
        for (int head = 0; head < heads; head++) {
            int at = told(x.head(head));
            holds("head " + head + " is at a kept one", at >= 0 && at < made && kinds[at] == 0);
        }
    }

    private void counts() {
        int[] of = new int[3];
        int most = 0;
        int whole = 0;
        for (int v = 0; v < made; v++) {
            of[kinds[v]]++;
            most = Math.max(most, steps[v]);
            whole += kinds[v] != 2 && bases[v] == StepVersions.NONE ? 1 : 0;
        }
        for (int kind = 0; kind <= 2; kind++) {
            due("of kind " + kind, of[kind], told(x.count(1 + kind)));
        }
        due("whole", whole, told(x.count(7)));
        due("most steps", most, told(x.count(8)));
        holds("never more steps than the limit", most <= told(x.count(5)));
        holds("at most 4 states", told(x.count(12)) <= 4);
    }
}
