import java.util.ArrayList;
import java.util.List;

/** The places where an object can stand. Each call of make gives a new object, and always the same. */
enum Scene {
    NEW(0, 0),
    ONE_COMMIT(0, 1),
    NO_SEARCH(0, 5),
    FULL(0, 14),
    ENDED(0, 5),
    BAD_NEXT(1, 5),
    BAD_STARTED(1, 5),
    BAD_LOST(1, 5),
    GOOD_NEXT(1, 5),
    GOOD_STARTED(1, 5),
    HALVING(2, 5),
    HALVING_STARTED(2, 5),
    HALVING_LOST(2, 5),
    HALVING_FULL(2, 14),
    UNBUILDABLE_PASSED_OVER(2, 4),
    PARENT_NEXT(3, 4),
    PARENT_STARTED(3, 4),
    REDUCING(3, 2),
    REDUCING_STARTED(3, 2),
    REDUCING_LOST(3, 2),
    REDUCED(4, 2),
    PARENT_FAILS(4, 4),
    PARENT_UNBUILDABLE(4, 4),
    CULPRIT_IS_ROOT(4, 3),
    OPEN(5, 4),
    REFUSED_BY_BAD(6, 2),
    REFUSED_BY_GOOD(6, 2);

    private static final int P = Dues.PASSING;
    private static final int F = Dues.FAILING;
    private static final int U = Dues.UNBUILDABLE;

    final int state;
    final int commits;

    Scene(int state, int commits) {
        this.state = state;
        this.commits = commits;
    }

    boolean isStarted() {
        return this == BAD_STARTED || this == GOOD_STARTED || this == HALVING_STARTED || this == PARENT_STARTED
                || this == REDUCING_STARTED;
    }

    boolean hasTestsLeft() {
        return state >= 1 && state <= 3;
    }

    CulpritFinder make() {
        return switch (this) {
            case NEW -> new CulpritFinder();
            case ONE_COMMIT -> Dues.rowOf(P);
            case NO_SEARCH -> row();
            case FULL -> fullRow();
            case ENDED -> ended();
            case BAD_NEXT -> begun(row(), 0, 4, 0, 0);
            case BAD_STARTED -> started(BAD_NEXT.make());
            case BAD_LOST -> lost(BAD_NEXT.make());
            case GOOD_NEXT -> begun(row(), 0, 4, 0, 1);
            case GOOD_STARTED -> started(GOOD_NEXT.make());
            case HALVING -> begun(row(), 0, 4, 0, 2);
            case HALVING_STARTED -> started(HALVING.make());
            case HALVING_LOST -> lost(HALVING.make());
            case HALVING_FULL -> begun(fullRow(), 0, 13, 0, 2);
            case UNBUILDABLE_PASSED_OVER -> begun(Dues.rowOf(P, U, U, F), 0, 3, 0, 3);
            case PARENT_NEXT -> begun(lateParent(P), 2, 3, 0, 2);
            case PARENT_STARTED -> started(PARENT_NEXT.make());
            case REDUCING -> begun(threeChanges(), 0, 1, 3, 3);
            case REDUCING_STARTED -> started(REDUCING.make());
            case REDUCING_LOST -> lost(REDUCING.make());
            case REDUCED -> begun(threeChanges(), 0, 1, 3, 7);
            case PARENT_FAILS -> begun(lateParent(F), 2, 3, 0, 3);
            case PARENT_UNBUILDABLE -> begun(lateParent(U), 2, 3, 0, 3);
            case CULPRIT_IS_ROOT -> begun(twoRoots(), 0, 2, 0, 3);
            case OPEN -> begun(Dues.rowOf(P, U, U, F), 0, 3, 0, 4);
            case REFUSED_BY_BAD -> begun(Dues.rowOf(P, P), 0, 1, 0, 1);
            case REFUSED_BY_GOOD -> begun(Dues.rowOf(F, F), 0, 1, 0, 2);
        };
    }

    private static CulpritFinder row() {
        return Dues.rowOf(P, P, P, F, F);
    }

    private static CulpritFinder fullRow() {
        return Dues.rowOf(P, P, P, P, P, P, P, P, F, F, F, F, F, F);
    }

    /** Commit 3 has the first parent 1, which is no suspect if 2 is good, and so not tested before the culprit. */
    private static CulpritFinder lateParent(int code) {
        CulpritFinder x = Dues.rowOf(P, code, P);
        Dues.commitOf(x, 1, 2, F);
        return x;
    }

    private static CulpritFinder twoRoots() {
        CulpritFinder x = Dues.rowOf(P);
        Dues.commitOf(x, -1, -1, F);
        Dues.commitOf(x, 0, 1, F);
        return x;
    }

    /** Lines 0 and 2 together fail with the input 3, line 1 does not matter. */
    private static CulpritFinder threeChanges() {
        CulpritFinder x = Dues.rowOf(0);
        Dues.commitOf(x, 0, -1, 105, 190, 703);
        return x;
    }

    private static CulpritFinder begun(CulpritFinder x, int good, int bad, int input, int tests) {
        Dues.due("begin of a scene", x.begin(good, bad, input), true);
        for (int i = 0; i < tests; i++) {
            started(x);
            Dues.due("a scene's test has a verdict", x.finish() != 0, true);
        }
        return x;
    }

    private static CulpritFinder started(CulpritFinder x) {
        Dues.due("start of a scene", x.start(), true);
        return x;
    }

    private static CulpritFinder lost(CulpritFinder x) {
        started(x);
        Dues.due("crash of a scene", x.crash(), true);
        return x;
    }

    private static CulpritFinder ended() {
        CulpritFinder x = HALVING_STARTED.make();
        Dues.due("end of a scene", x.end(), true);
        return x;
    }

    /** Whether x answers all calls from here on as its twin does; both are used up by it. */
    void same(String what, CulpritFinder x, CulpritFinder twin) {
        List<Integer> got = answersOf(x);
        List<Integer> want = answersOf(twin);
        if (!got.equals(want)) {
            System.out.println(this + ", " + what + ":\n  " + got + ", due is\n  " + want);
        }
        Dues.due(this + ", " + what + ": all calls behind it are as if it had not been made", got.equals(want), true);
    }

    private List<Integer> answersOf(CulpritFinder x) {
        List<Integer> answers = new ArrayList<>();
        look(x, answers);
        answers.add(x.finish());
        while (x.start() && answers.size() < 250) {
            answers.add(x.next());
            answers.add(x.finish());
            answers.add(x.state());
        }
        look(x, answers);
        goOn(x, answers);
        return answers;
    }

    private void look(CulpritFinder x, List<Integer> answers) {
        answers.addAll(List.of(x.state(), x.next(), x.suspects(), x.culprit(), x.reduced(), x.journal(), x.started()));
        int length = x.journal();
        for (int k = 0; k <= length; k++) {
            answers.add(x.entry(k));
        }
        for (int c = 0; c <= commits; c++) {
            answers.add(x.weight(c));
        }
    }

    /** What the history and a search behind this one answer. */
    private void goOn(CulpritFinder x, List<Integer> answers) {
        for (int c = 0; c <= commits; c++) {
            for (int line = 0; line < 8; line++) {
                answers.add(x.line(c, line));
            }
            answers.add(x.verdict(c, 0));
        }
        answers.add(x.end() ? 1 : 0);
        for (int c = 0; c <= commits; c++) {
            answers.add(x.write(c, 6, 8) ? 1 : 0);
        }
        answers.add(x.commit(commits - 1, -1));
        answers.add(x.commit(0, 1));
        answers.add(x.begin(0, commits - 1, 0) ? 1 : 0);
        answers.add(x.start() ? 1 : 0);
        answers.add(x.finish());
        look(x, answers);
    }
}
