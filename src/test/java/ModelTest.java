import java.util.Random;

/** All promises: long runs of mixed calls, each answer compared with PlainFinder's. */
public final class ModelTest {
    private static final int RUNS = 3000;
    // The document promises nothing behind the 512th call.
    private static final int CALLS = 512;
    private static final int STYLES = 3;

    private final Random random;
    private final CulpritFinder x = new CulpritFinder();
    private final PlainFinder plain = new PlainFinder();
    private final int run;
    private int calls = 0;
    private static final int[] statesReached = new int[7];
    private static int longestReduction = 0;
    private static int lateParents = 0;

    private ModelTest(int run) {
        this.run = run;
        random = new Random(run);
    }

    public static void main(String[] args) {
        for (int run = 0; run < RUNS; run++) {
            new ModelTest(run).play();
        }
        // The runs are worth nothing if they never come to the rare places.
        for (int state = 0; state <= 6; state++) {
            Dues.due("enough runs reach state " + state, statesReached[state] >= 100, true);
        }
        Dues.due("some reductions are long", longestReduction >= 12, true);
        Dues.due("parents are tested late", lateParents >= 20, true);
        Dues.finishTests();
    }

    private void play() {
        int commits = 2 + random.nextInt(13);
        int style = random.nextInt(STYLES);
        for (int c = 0; c < commits; c++) {
            addCommit(c);
            writeProgram(c, style);
        }
        while (calls < CALLS - 4) {
            act();
            look();
        }
    }

    private void same(String call, int argument, int got, int want) {
        calls++;
        Dues.due("run " + run + ", call " + calls + ", " + call + " " + argument, got, want);
    }

    private int someCommit() {
        return random.nextInt(16) - 1;
    }

    private void addCommit(int c) {
        int first = random.nextInt(3) == 0 ? random.nextInt(c + 1) - 1 : c - 1;
        int second = random.nextInt(3) == 0 && first >= 0 ? random.nextInt(c) : -1;
        if (first == second) {
            second = -1;
        }
        commit(first, second);
    }

    private void commit(int first, int second) {
        same("commit", first, x.commit(first, second), plain.commit(first, second));
    }

    private void write(int c, int line, int code) {
        same("write", code, x.write(c, line, code) ? 1 : 0, plain.write(c, line, code) ? 1 : 0);
    }

    private void writeProgram(int c, int style) {
        if (style == 0) {
            // What is written is a verdict alone: many graphs, with many unbuildable commits.
            int kind = random.nextInt(10);
            write(c, 0, kind < 4 ? Dues.PASSING : kind < 7 ? Dues.FAILING : Dues.UNBUILDABLE);
        } else if (style == 1) {
            writeManyChanges(c);
        } else {
            int writes = random.nextInt(5);
            for (int i = 0; i < writes; i++) {
                writeSome(c);
            }
        }
    }

    /** A few lines count, and the more that stand between them the longer it takes to reduce them. */
    private void writeManyChanges(int c) {
        if (random.nextInt(3) == 0) {
            return;
        }
        for (int line = 0; line < 8; line++) {
            int kind = random.nextInt(12);
            if (kind < 6) {
                write(c, line, 190 + random.nextInt(10));
            } else if (kind < 8) {
                write(c, line, 110 + random.nextInt(3) * 10 + random.nextInt(3));
            } else if (kind == 8) {
                write(c, line, 200 + random.nextInt(3));
            } else if (kind == 9 && line > 4) {
                write(c, line, 700 + random.nextInt(4));
            }
        }
    }

    private void writeSome(int c) {
        int operation = random.nextInt(10);
        if (operation >= 4 && operation <= 6) {
            int from = random.nextInt(7);
            write(c, from, 400 + random.nextInt(2) * 100);
            write(c, from + 1 + random.nextInt(7 - from), 600);
        } else {
            write(c, random.nextInt(8), operation * 100 + random.nextInt(3) * 10 + random.nextInt(3));
        }
    }

    private void begin() {
        int input = random.nextInt(5) - 1;
        int good = someCommit();
        int bad = someCommit();
        // Most pairs would be refused at once; some tries make a search likely that goes on.
        for (int i = 0; i < 60 && !promising(good, bad, input); i++) {
            good = someCommit();
            bad = someCommit();
            input = random.nextInt(5) - 1;
        }
        same("begin", bad, x.begin(good, bad, input) ? 1 : 0, plain.begin(good, bad, input) ? 1 : 0);
    }

    private boolean promising(int good, int bad, int input) {
        return good < bad && plain.verdict(good, input) == 1 && plain.verdict(bad, input) == 2;
    }

    private void act() {
        int choice = random.nextInt(100);
        int state = plain.state();
        if (choice < 2) {
            commit(someCommit(), random.nextInt(2) == 0 ? -1 : someCommit());
        } else if (choice < 6) {
            writeSome(someCommit());
        } else if (choice < 8) {
            same("end", 0, x.end() ? 1 : 0, plain.end() ? 1 : 0);
        } else if (choice < 12 || state == 0 || state >= 4 && choice < 40) {
            begin();
        } else if (choice < 18) {
            same("crash", 0, x.crash() ? 1 : 0, plain.crash() ? 1 : 0);
        } else if (choice < 60) {
            same("start", 0, x.start() ? 1 : 0, plain.start() ? 1 : 0);
        } else {
            same("finish", 0, x.finish(), plain.finish());
        }
        note();
    }

    private void note() {
        statesReached[plain.state()]++;
        if (plain.state() == 3 && plain.next() < 1000) {
            lateParents++;
        }
        if (plain.next() >= 1000) {
            int sets = 0;
            for (int k = 0; k < plain.journal(); k++) {
                sets += plain.entry(k) >= 10000 ? 1 : 0;
            }
            longestReduction = Math.max(longestReduction, sets);
        }
    }

    private void look() {
        int c = someCommit();
        int k = random.nextInt(plain.journal() + 3) - 1;
        int line = random.nextInt(10) - 1;
        int input = random.nextInt(40) - 3;
        switch (random.nextInt(11)) {
            case 0 -> same("line", line, x.line(c, line), plain.line(c, line));
            case 1 -> same("verdict", c, x.verdict(c, input), plain.verdict(c, input));
            case 2 -> same("next", 0, x.next(), plain.next());
            case 3 -> same("journal", 0, x.journal(), plain.journal());
            case 4 -> same("entry", k, x.entry(k), plain.entry(k));
            case 5 -> same("state", 0, x.state(), plain.state());
            case 6 -> same("suspects", 0, x.suspects(), plain.suspects());
            case 7 -> same("weight", c, x.weight(c), plain.weight(c));
            case 8 -> same("culprit", 0, x.culprit(), plain.culprit());
            case 9 -> same("reduced", 0, x.reduced(), plain.reduced());
            default -> same("started", 0, x.started(), plain.started());
        }
    }
}
