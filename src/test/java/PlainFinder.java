import java.util.ArrayList;
import java.util.Arrays;
import java.util.LinkedHashMap;
import java.util.List;
import java.util.Map;
import java.util.TreeSet;

/**
 * A second reading of the document, to compare with: it keeps nothing of a search but its journal, and follows the
 * document's words from the first test on for every answer.
 */
final class PlainFinder {
    /** What the search needs to know and the journal does not tell. */
    private static final class Missing extends Exception {
        private static final long serialVersionUID = 1L;
        private final int test;

        Missing(int test) {
            this.test = test;
        }
    }

    private final List<int[]> parents = new ArrayList<>();
    private final List<int[]> programs = new ArrayList<>();

    private boolean searching;
    private int good;
    private int bad;
    private int input;
    private boolean running;
    private int started;
    private final Map<Integer, Integer> journal = new LinkedHashMap<>();

    private int state;
    private int next;
    private int culprit;
    private int reduced;
    private TreeSet<Integer> suspects = new TreeSet<>();

    private boolean known(int c) {
        return 0 <= c && c < programs.size();
    }

    int commit(int first, int second) {
        boolean wrongFirst = first != -1 && !known(first);
        boolean wrongSecond = second != -1 && !known(second);
        boolean alone = first == -1 && second != -1;
        boolean same = first != -1 && first == second;
        if (wrongFirst || wrongSecond || alone || same || programs.size() == 14) {
            return -1;
        }
        parents.add(new int[] {first, second});
        programs.add(first == -1 ? new int[8] : programs.get(first).clone());
        return programs.size() - 1;
    }

    boolean write(int c, int line, int code) {
        if (!known(c) || line < 0 || line > 7 || code < 0 || code > 999 || searching) {
            return false;
        }
        for (int[] pair : parents) {
            if (pair[0] == c || pair[1] == c) {
                return false;
            }
        }
        programs.get(c)[line] = code;
        return true;
    }

    int line(int c, int line) {
        return known(c) && line >= 0 && line <= 7 ? programs.get(c)[line] : -1;
    }

    int verdict(int c, int with) {
        return known(c) ? judge(programs.get(c), with) : 0;
    }

    boolean begin(int newGood, int newBad, int newInput) {
        if (!known(newGood) || !known(newBad) || newGood == newBad || !ancestors(newBad).contains(newGood)) {
            return false;
        }
        end();
        searching = true;
        good = newGood;
        bad = newBad;
        input = newInput;
        return true;
    }

    boolean end() {
        boolean was = searching;
        searching = false;
        running = false;
        journal.clear();
        return was;
    }

    int next() {
        follow();
        return next;
    }

    boolean start() {
        if (next() == -1 || running) {
            return false;
        }
        running = true;
        started++;
        return true;
    }

    int finish() {
        if (!running) {
            return 0;
        }
        follow();
        int[] program;
        if (next >= 1000) {
            program = mixed(next - 1000);
        } else {
            program = programs.get(next);
        }
        int verdict = judge(program, input);
        journal.put(next, verdict);
        running = false;
        return verdict;
    }

    boolean crash() {
        running = false;
        return searching;
    }

    int journal() {
        return journal.size();
    }

    int entry(int k) {
        int at = 0;
        for (Map.Entry<Integer, Integer> entry : journal.entrySet()) {
            if (at == k) {
                return 10 * entry.getKey() + entry.getValue();
            }
            at++;
        }
        return -1;
    }

    int state() {
        follow();
        return state;
    }

    int suspects() {
        follow();
        int sum = 0;
        for (int c : suspects) {
            sum += (int) Math.pow(2, c);
        }
        return sum;
    }

    int weight(int c) {
        follow();
        return suspects.contains(c) ? weightAmong(c, suspects) : 0;
    }

    int culprit() {
        follow();
        return culprit;
    }

    int reduced() {
        follow();
        return reduced;
    }

    int started() {
        return started;
    }

    private TreeSet<Integer> ancestors(int c) {
        TreeSet<Integer> all = new TreeSet<>();
        all.add(c);
        for (int parent : parents.get(c)) {
            if (parent != -1) {
                all.addAll(ancestors(parent));
            }
        }
        return all;
    }

    private int weightAmong(int c, TreeSet<Integer> among) {
        TreeSet<Integer> both = ancestors(c);
        both.retainAll(among);
        return both.size();
    }

    private int ask(int test) throws Missing {
        Integer verdict = journal.get(test);
        if (verdict == null) {
            throw new Missing(test);
        }
        return verdict;
    }

    private void follow() {
        state = 0;
        next = -1;
        culprit = -1;
        reduced = -1;
        suspects = new TreeSet<>();
        if (!searching) {
            return;
        }
        try {
            search();
        } catch (Missing missing) {
            next = missing.test;
        }
    }

    private void search() throws Missing {
        state = 1;
        if (ask(bad) != 2 || ask(good) != 1) {
            state = 6;
            return;
        }
        state = 2;
        int last = halve();
        if (suspects.size() > 1) {
            state = 5;
            return;
        }
        culprit = last;
        int parent = parents.get(culprit)[0];
        if (parent != -1) {
            state = 3;
            if (ask(parent) == 1) {
                reduce(parent);
            }
        }
        state = 4;
    }

    private int halve() throws Missing {
        int last = bad;
        List<Integer> tested = new ArrayList<>(Arrays.asList(bad, good));
        while (true) {
            suspects = ancestors(last);
            for (int c : tested) {
                if (ask(c) == 1) {
                    suspects.removeAll(ancestors(c));
                }
            }
            int best = -1;
            for (int c : suspects.descendingSet()) {
                if (c != last && !tested.contains(c) && (best == -1 || lesser(c) >= lesser(best))) {
                    best = c;
                }
            }
            if (best == -1) {
                return last;
            }
            if (ask(best) == 2) {
                last = best;
            }
            tested.add(best);
        }
    }

    private int lesser(int c) {
        int weight = weightAmong(c, suspects);
        return Math.min(weight, suspects.size() - weight);
    }

    private void reduce(int parent) throws Missing {
        List<Integer> c = new ArrayList<>();
        for (int line = 0; line < 8; line++) {
            if (programs.get(parent)[line] != programs.get(culprit)[line]) {
                c.add(line);
            }
        }
        int n = 2;
        anew:
        while (true) {
            reduced = sum(c);
            if (c.size() <= 1) {
                return;
            }
            for (int i = 0; i < n; i++) {
                List<Integer> piece = piece(c, i, n);
                if (ask(1000 + sum(piece)) == 2) {
                    c = piece;
                    n = 2;
                    continue anew;
                }
            }
            for (int i = 0; i < n; i++) {
                List<Integer> rest = new ArrayList<>(c);
                rest.removeAll(piece(c, i, n));
                if (ask(1000 + sum(rest)) == 2) {
                    c = rest;
                    n = Math.max(n - 1, 2);
                    continue anew;
                }
            }
            if (n >= c.size()) {
                return;
            }
            n = Math.min(2 * n, c.size());
        }
    }

    private static List<Integer> piece(List<Integer> c, int i, int n) {
        return new ArrayList<>(c.subList(i * c.size() / n, (i + 1) * c.size() / n));
    }

    private static int sum(List<Integer> lines) {
        int sum = 0;
        for (int line : lines) {
            sum += (int) Math.pow(2, line);
        }
        return sum;
    }

    private int[] mixed(int set) {
        int[] program = programs.get(parents.get(culprit)[0]).clone();
        for (int line = 0; line < 8; line++) {
            if (set / (int) Math.pow(2, line) % 2 == 1) {
                program[line] = programs.get(culprit)[line];
            }
        }
        return program;
    }

    private static int judge(int[] program, int with) {
        if (!builds(program)) {
            return 3;
        }
        int[] variables = new int[10];
        variables[0] = with;
        int at = 0;
        int done = 0;
        while (at < 8) {
            done++;
            if (done == 81) {
                return 2;
            }
            int o = program[at] / 100;
            int a = program[at] / 10 % 10;
            int b = program[at] % 10;
            if (o == 7 && variables[a] != b) {
                return 2;
            }
            if (o == 1 || o == 8) {
                variables[a] = o == 1 ? b : variables[b];
            }
            if (o == 2) {
                variables[a] = variables[a] + variables[b];
            }
            if (o == 3) {
                variables[a] = variables[a] > 0 ? variables[a] - 1 : variables[a];
            }
            if ((o == 4 || o == 5) && variables[a] == 0) {
                at = endOf(program, at) + 1;
            } else if (o == 6) {
                at = whileOf(program, at);
            } else {
                at++;
            }
        }
        return 1;
    }

    private static boolean opens(int code) {
        return code / 100 == 4 || code / 100 == 5;
    }

    private static int endOf(int[] program, int opening) {
        int depth = 0;
        for (int line = opening; line < 8; line++) {
            depth += opens(program[line]) ? 1 : program[line] / 100 == 6 ? -1 : 0;
            if (depth == 0) {
                return line;
            }
        }
        return -1;
    }

    /** Where an END goes on: the WHILE that it belongs with, or the line behind it. */
    private static int whileOf(int[] program, int end) {
        for (int line = 0; line < end; line++) {
            if (program[line] / 100 == 4 && endOf(program, line) == end) {
                return line;
            }
        }
        return end + 1;
    }

    private static boolean builds(int[] program) {
        int paired = 0;
        int ends = 0;
        for (int line = 0; line < 8; line++) {
            int o = program[line] / 100;
            int a = program[line] / 10 % 10;
            int b = program[line] % 10;
            if (o == 9 || opens(program[line]) && endOf(program, line) == -1) {
                return false;
            }
            paired += opens(program[line]) ? 1 : 0;
            ends += o == 6 ? 1 : 0;
            boolean readsA = o == 2 || o == 3 || o == 4 || o == 5 || o == 7;
            boolean readsB = o == 2 || o == 8;
            if (readsA && !setBefore(program, line, a) || readsB && !setBefore(program, line, b)) {
                return false;
            }
        }
        return paired == ends;
    }

    private static boolean setBefore(int[] program, int line, int variable) {
        for (int before = 0; before < line; before++) {
            boolean sets = program[before] / 100 == 1 || program[before] / 100 == 8;
            if (sets && program[before] / 10 % 10 == variable) {
                return true;
            }
        }
        return variable == 0;
    }
}
