import java.util.Arrays;

/** Finds which commit of a history made a program fail, and which of its changed lines. */
public final class CulpritFinder {
    private static final int NONE = -1;

    private static final int MAX_COMMITS = 14;
    private static final int LINES = 8;
    private static final int LINE_SETS = 1 << LINES;
    private static final int VARIABLES = 10;
    private static final int MAX_CODE = 999;
    private static final int MAX_STEPS = 80;

    private static final int SET = 1;
    private static final int ADD = 2;
    private static final int DROP = 3;
    private static final int WHILE = 4;
    private static final int IF = 5;
    private static final int END = 6;
    private static final int CHECK = 7;
    private static final int COPY = 8;
    private static final int NO_OPERATION = 9;

    private static final int UNTESTED = 0;
    private static final int PASSES = 1;
    private static final int FAILS = 2;
    private static final int UNBUILDABLE = 3;

    private static final int NO_SEARCH = 0;
    private static final int TESTING_ENDS = 1;
    private static final int HALVING = 2;
    private static final int REDUCING = 3;
    private static final int FOUND = 4;
    private static final int OPEN = 5;
    private static final int REFUSED = 6;

    private static final int FIRST_SET_TEST = 1000;
    private static final int ENTRY_FACTOR = 10;

    private final History history;
    private final Machine machine;
    private final Search search;

    public CulpritFinder() {
        history = new History();
        machine = new Machine();
        search = new Search(history, machine);
    }

    public int commit(int first, int second) {
        return history.mayAdd(first, second) ? history.add(first, second) : NONE;
    }

    public boolean write(int c, int line, int code) {
        boolean refused = !history.hasLine(c, line) || code < 0 || code > MAX_CODE
                || history.isParent(c) || search.stage != NO_SEARCH;
        if (refused) {
            return false;
        }
        history.setCode(c, line, code);
        return true;
    }

    public int line(int c, int line) {
        return history.hasLine(c, line) ? history.codeAt(c, line) : NONE;
    }

    public int verdict(int c, int input) {
        if (!history.has(c)) {
            return UNTESTED;
        }
        machine.load(history, c);
        return machine.judge(input);
    }

    public boolean begin(int good, int bad, int input) {
        if (!history.isOlderAncestor(good, bad)) {
            return false;
        }
        search.open(good, bad, input);
        return true;
    }

    public boolean end() {
        if (search.stage == NO_SEARCH) {
            return false;
        }
        search.close();
        return true;
    }

    public int next() {
        return search.upcoming;
    }

    public boolean start() {
        return search.startTest();
    }

    public int finish() {
        return search.finishTest();
    }

    public boolean crash() {
        search.loseTest();
        return search.stage != NO_SEARCH;
    }

    public int journal() {
        return search.journalLength;
    }

    public int entry(int k) {
        return k >= 0 && k < search.journalLength ? search.journal[k] : NONE;
    }

    public int state() {
        return search.stage;
    }

    public int suspects() {
        return search.suspects;
    }

    public int weight(int c) {
        return search.isSuspect(c) ? search.weightOf(c) : 0;
    }

    public int culprit() {
        return search.culprit;
    }

    public int reduced() {
        return search.reduction.set;
    }

    public int started() {
        return search.startedTests;
    }

    /** The graph of the commits, with their programs. Sets of commits are sums of 2^number. */
    private static final class History {
        private final int[] firstParents = new int[MAX_COMMITS];
        private final int[] ancestors = new int[MAX_COMMITS];
        private final int[] codes = new int[MAX_COMMITS * LINES];
        private int parents = 0;
        private int size = 0;

        boolean has(int c) {
            return c >= 0 && c < size;
        }

        boolean hasLine(int c, int line) {
            return has(c) && line >= 0 && line < LINES;
        }

        boolean isParent(int c) {
            return (parents >> c & 1) != 0;
        }

        boolean isOlderAncestor(int older, int c) {
            return has(older) && has(c) && older != c && (ancestors[c] >> older & 1) != 0;
        }

        int codeAt(int c, int line) {
            return codes[c * LINES + line];
        }

        void setCode(int c, int line, int code) {
            codes[c * LINES + line] = code;
        }

        boolean mayAdd(int first, int second) {
            if (size == MAX_COMMITS) {
                return false;
            }
            if (first == NONE) {
                return second == NONE;
            }
            return has(first) && (second == NONE || has(second) && second != first);
        }

        int add(int first, int second) {
            int c = size;
            size++;
            firstParents[c] = first;
            ancestors[c] = 1 << c;
            if (first != NONE) {
                System.arraycopy(codes, first * LINES, codes, c * LINES, LINES);
                addParent(c, first);
            }
            if (second != NONE) {
                addParent(c, second);
            }
            return c;
        }

        private void addParent(int c, int parent) {
            parents |= 1 << parent;
            ancestors[c] |= ancestors[parent];
        }

        int changedLines(int from, int to) {
            int changed = 0;
            for (int line = 0; line < LINES; line++) {
                if (codeAt(from, line) != codeAt(to, line)) {
                    changed |= 1 << line;
                }
            }
            return changed;
        }
    }

    /** Builds and runs one program at a time. */
    private static final class Machine {
        private final int[] codes = new int[LINES];
        private final int[] partners = new int[LINES];
        private final int[] openLines = new int[LINES];
        private final int[] variables = new int[VARIABLES];

        void load(History history, int c) {
            loadLines(history, c, LINE_SETS - 1);
        }

        void loadLines(History history, int c, int lines) {
            for (int line = 0; line < LINES; line++) {
                if ((lines >> line & 1) != 0) {
                    codes[line] = history.codeAt(c, line);
                }
            }
        }

        int judge(int input) {
            if (!hasOperations() || !pairsBlocks() || !setsBeforeReading()) {
                return UNBUILDABLE;
            }
            return runWith(input);
        }

        private boolean hasOperations() {
            for (int line = 0; line < LINES; line++) {
                if (operation(codes[line]) == NO_OPERATION) {
                    return false;
                }
            }
            return true;
        }

        private boolean pairsBlocks() {
            int open = 0;
            for (int line = 0; line < LINES; line++) {
                int operation = operation(codes[line]);
                if (operation == WHILE || operation == IF) {
                    openLines[open] = line;
                    open++;
                } else if (operation == END) {
                    if (open == 0) {
                        return false;
                    }
                    open--;
                    partners[line] = openLines[open];
                    partners[openLines[open]] = line;
                }
            }
            return open == 0;
        }

        private boolean setsBeforeReading() {
            // Variable 0 holds the input, so it may be read from line 0 on.
            int set = 1;
            for (int line = 0; line < LINES; line++) {
                int code = codes[line];
                if ((readVariables(code) & ~set) != 0) {
                    return false;
                }
                if (operation(code) == SET || operation(code) == COPY) {
                    set |= 1 << left(code);
                }
            }
            return true;
        }

        private int runWith(int input) {
            Arrays.fill(variables, 0);
            variables[0] = input;
            int line = 0;
            for (int steps = 0; steps < MAX_STEPS && line < LINES; steps++) {
                line = lineAfter(line);
                if (line == NONE) {
                    return FAILS;
                }
            }
            return line < LINES ? FAILS : PASSES;
        }

        /** Does a line; the line to go on with, or NONE if a check failed. */
        private int lineAfter(int line) {
            int a = left(codes[line]);
            int b = right(codes[line]);
            switch (operation(codes[line])) {
                case SET:
                    variables[a] = b;
                    break;
                case ADD:
                    variables[a] += variables[b];
                    break;
                case DROP:
                    if (variables[a] > 0) {
                        variables[a]--;
                    }
                    break;
                case WHILE:
                case IF:
                    if (variables[a] == 0) {
                        return partners[line] + 1;
                    }
                    break;
                case END:
                    if (operation(codes[partners[line]]) == WHILE) {
                        return partners[line];
                    }
                    break;
                case CHECK:
                    if (variables[a] != b) {
                        return NONE;
                    }
                    break;
                case COPY:
                    variables[a] = variables[b];
                    break;
                default:
                    break;
            }
            return line + 1;
        }

        private static int operation(int code) {
            return code / 100;
        }

        private static int left(int code) {
            return code / 10 % 10;
        }

        private static int right(int code) {
            return code % 10;
        }

        private static int readVariables(int code) {
            switch (operation(code)) {
                case ADD:
                    return 1 << left(code) | 1 << right(code);
                case DROP:
                case WHILE:
                case IF:
                case CHECK:
                    return 1 << left(code);
                case COPY:
                    return 1 << right(code);
                default:
                    return 0;
            }
        }
    }

    /** Makes a failing set of changed lines least. Sets of lines are sums of 2^line. */
    private static final class Reduction {
        // A round makes the set smaller, at most 7 times, or the pieces more, at most twice a set.
        private static final int MAX_ROUNDS = 64;

        private final int[] verdicts = new int[LINE_SETS];
        private int set = NONE;
        private int pieces = 0;

        void reset() {
            Arrays.fill(verdicts, UNTESTED);
            set = NONE;
        }

        void keepVerdict(int lines, int verdict) {
            verdicts[lines] = verdict;
        }

        /** Goes from all changes as far as the verdicts lead; the set that is to be tested, or NONE at the end. */
        int follow(int changes) {
            set = changes;
            pieces = 2;
            for (int round = 0; round < MAX_ROUNDS; round++) {
                int size = Integer.bitCount(set);
                if (size <= 1) {
                    return NONE;
                }
                boolean rest = false;
                int lines = firstNotHarmless(false, size);
                if (lines == 0) {
                    rest = true;
                    lines = firstNotHarmless(true, size);
                }
                if (lines == 0) {
                    if (pieces >= size) {
                        return NONE;
                    }
                    pieces = Math.min(2 * pieces, size);
                } else if (verdicts[lines] == UNTESTED) {
                    return lines;
                } else {
                    set = lines;
                    pieces = rest ? Math.max(pieces - 1, 2) : 2;
                }
            }
            return NONE;
        }

        /** The first piece, or rest that a piece leaves, that fails or is untested; 0 if there is none. */
        private int firstNotHarmless(boolean rest, int size) {
            for (int i = 0; i < pieces; i++) {
                int piece = placesOfSet(i * size / pieces, (i + 1) * size / pieces);
                int lines = rest ? set & ~piece : piece;
                if (verdicts[lines] == UNTESTED || verdicts[lines] == FAILS) {
                    return lines;
                }
            }
            return 0;
        }

        private int placesOfSet(int from, int behind) {
            int place = 0;
            int lines = 0;
            for (int line = 0; line < LINES; line++) {
                if ((set >> line & 1) != 0) {
                    if (place >= from && place < behind) {
                        lines |= 1 << line;
                    }
                    place++;
                }
            }
            return lines;
        }
    }

    /** The search that there is, if any, with its journal. */
    private static final class Search {
        private final History history;
        private final Machine machine;
        private final Reduction reduction = new Reduction();
        // No commit and no set of lines is tested twice in a search, so the journal can't outgrow this.
        private final int[] journal = new int[MAX_COMMITS + LINE_SETS];
        private final int[] verdicts = new int[MAX_COMMITS];
        private int journalLength = 0;
        private int stage = NO_SEARCH;
        private int good = NONE;
        private int bad = NONE;
        private int input = 0;
        private int lastFailed = NONE;
        private int cleared = 0;
        private int suspects = 0;
        private int culprit = NONE;
        private int upcoming = NONE;
        private boolean testRuns = false;
        private int startedTests = 0;

        Search(History history, Machine machine) {
            this.history = history;
            this.machine = machine;
        }

        void open(int newGood, int newBad, int newInput) {
            close();
            good = newGood;
            bad = newBad;
            input = newInput;
            stage = TESTING_ENDS;
            plan();
        }

        void close() {
            Arrays.fill(verdicts, UNTESTED);
            reduction.reset();
            journalLength = 0;
            stage = NO_SEARCH;
            cleared = 0;
            suspects = 0;
            culprit = NONE;
            upcoming = NONE;
            loseTest();
        }

        boolean startTest() {
            if (upcoming == NONE || testRuns) {
                return false;
            }
            testRuns = true;
            startedTests++;
            return true;
        }

        int finishTest() {
            if (!testRuns) {
                return UNTESTED;
            }
            testRuns = false;
            int verdict = judgeUpcoming();
            journal[journalLength] = ENTRY_FACTOR * upcoming + verdict;
            journalLength++;
            keepVerdict(upcoming, verdict);
            plan();
            return verdict;
        }

        void loseTest() {
            testRuns = false;
        }

        boolean isSuspect(int c) {
            return history.has(c) && (suspects >> c & 1) != 0;
        }

        int weightOf(int c) {
            return Integer.bitCount(history.ancestors[c] & suspects);
        }

        private int judgeUpcoming() {
            if (upcoming >= FIRST_SET_TEST) {
                machine.load(history, history.firstParents[culprit]);
                machine.loadLines(history, culprit, upcoming - FIRST_SET_TEST);
            } else {
                machine.load(history, upcoming);
            }
            return machine.judge(input);
        }

        private void keepVerdict(int test, int verdict) {
            if (test >= FIRST_SET_TEST) {
                reduction.keepVerdict(test - FIRST_SET_TEST, verdict);
                return;
            }
            verdicts[test] = verdict;
            if (verdict == FAILS) {
                lastFailed = test;
            } else if (verdict == PASSES) {
                cleared |= history.ancestors[test];
            }
        }

        /** Finds the next test; a stage that has none may hand over to the one behind it. */
        private void plan() {
            upcoming = NONE;
            if (stage == TESTING_ENDS) {
                planEnds();
            }
            if (stage == HALVING) {
                planHalving();
            }
            if (stage == REDUCING) {
                planReducing();
            }
        }

        private void planEnds() {
            if (verdicts[bad] == UNTESTED) {
                upcoming = bad;
            } else if (verdicts[bad] != FAILS) {
                stage = REFUSED;
            } else if (verdicts[good] == UNTESTED) {
                upcoming = good;
            } else {
                stage = verdicts[good] == PASSES ? HALVING : REFUSED;
            }
        }

        private void planHalving() {
            suspects = history.ancestors[lastFailed] & ~cleared;
            upcoming = bestHalver();
            if (upcoming != NONE) {
                return;
            }
            if (suspects == 1 << lastFailed) {
                culprit = lastFailed;
                stage = REDUCING;
            } else {
                stage = OPEN;
            }
        }

        private int bestHalver() {
            int count = Integer.bitCount(suspects);
            int best = NONE;
            int bestLesser = NONE;
            for (int c = 0; c < MAX_COMMITS; c++) {
                // The bad one was tested itself, so it is never taken here.
                if (isSuspect(c) && verdicts[c] == UNTESTED) {
                    int weight = weightOf(c);
                    int lesser = Math.min(weight, count - weight);
                    if (lesser > bestLesser) {
                        best = c;
                        bestLesser = lesser;
                    }
                }
            }
            return best;
        }

        private void planReducing() {
            int parent = history.firstParents[culprit];
            if (parent != NONE && verdicts[parent] == UNTESTED) {
                upcoming = parent;
                return;
            }
            int lines = NONE;
            if (parent != NONE && verdicts[parent] == PASSES) {
                lines = reduction.follow(history.changedLines(parent, culprit));
            }
            if (lines == NONE) {
                stage = FOUND;
            } else {
                upcoming = FIRST_SET_TEST + lines;
            }
        }
    }
}
