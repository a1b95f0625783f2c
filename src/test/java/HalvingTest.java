/** Promises 8 and 14 to 17: next, state, suspects, weight and culprit up to the culprit's parent. */
public final class HalvingTest {
    private static final int P = Dues.PASSING;
    private static final int F = Dues.FAILING;
    private static final int U = Dues.UNBUILDABLE;

    public static void main(String[] args) {
        row();
        refused();
        passesOverUnbuildable();
        open();
        openAmongSomeLeft();
        weightsOfAGraph();
        failedLastIsTheBadOne();
        culpritWithoutParent();
        parentDoesNotPass(U, 3);
        parentDoesNotPass(F, 2);
        parentPassesWhenTestedLate();
        parentWasTestedAndIsUnbuildable();
        newCommitsAreNoSuspects();
        fourteenCommits();
        Dues.finishTests();
    }

    private static void weights(CulpritFinder x, int... wanted) {
        for (int c = 0; c < wanted.length; c++) {
            Dues.due("weight(" + c + ")", x.weight(c), wanted[c]);
        }
    }

    private static void row() {
        CulpritFinder x = Dues.rowOf(P, P, P, P, P, F, F, F);
        x.begin(0, 7, 0);
        Dues.standing(x, 1, 0, -1, -1);
        weights(x, 0, 0, 0, 0, 0, 0, 0, 0);
        Dues.test(x, 7, 2);
        Dues.standing(x, 1, 0, -1, -1);
        Dues.test(x, 0, 1);
        Dues.standing(x, 2, 254, -1, -1);
        weights(x, 0, 1, 2, 3, 4, 5, 6, 7, 0);
        Dues.due("weight(-1)", x.weight(-1), 0);
        Dues.due("weight(33)", x.weight(33), 0);
        Dues.due("weight(MIN)", x.weight(Integer.MIN_VALUE), 0);
        Dues.due("weight(MAX)", x.weight(Integer.MAX_VALUE), 0);
        Dues.test(x, 3, 1);
        Dues.standing(x, 2, 240, -1, -1);
        weights(x, 0, 0, 0, 0, 1, 2, 3, 4);
        Dues.test(x, 5, 2);
        Dues.standing(x, 2, 48, -1, -1);
        weights(x, 0, 0, 0, 0, 1, 2, 0, 0);
        Dues.test(x, 4, 1);
        Dues.standing(x, 4, 32, 5, 1);
        weights(x, 0, 0, 0, 0, 0, 1, 0, 0);
        Dues.noMoreTests(x);
    }

    private static void refused() {
        refusedByBad(P, 1);
        refusedByBad(U, 3);
        refusedByGood(F, 2);
        refusedByGood(U, 3);
    }

    private static void refusedByBad(int code, int verdict) {
        CulpritFinder x = Dues.rowOf(P, code);
        x.begin(0, 1, 0);
        Dues.test(x, 1, verdict);
        Dues.standing(x, 6, 0, -1, -1);
        Dues.noMoreTests(x);
        Dues.due("journal()", x.journal(), 1);
    }

    private static void refusedByGood(int code, int verdict) {
        CulpritFinder x = Dues.rowOf(code, F);
        x.begin(0, 1, 0);
        Dues.test(x, 1, 2);
        Dues.test(x, 0, verdict);
        Dues.standing(x, 6, 0, -1, -1);
        weights(x, 0, 0);
        Dues.noMoreTests(x);
        Dues.due("journal()", x.journal(), 2);
    }

    private static void passesOverUnbuildable() {
        CulpritFinder x = Dues.rowOf(P, P, U, F, F, F);
        x.begin(0, 5, 0);
        Dues.test(x, 5, 2);
        Dues.test(x, 0, 1);
        weights(x, 0, 1, 2, 3, 4, 5);
        Dues.test(x, 2, 3);
        // It is still a suspect, and counts in the weights.
        Dues.standing(x, 2, 62, -1, -1);
        weights(x, 0, 1, 2, 3, 4, 5);
        Dues.test(x, 3, 2);
        Dues.standing(x, 2, 14, -1, -1);
        Dues.test(x, 1, 1);
        Dues.standing(x, 5, 12, -1, -1);
        weights(x, 0, 0, 1, 2, 0, 0);
        Dues.noMoreTests(x);
    }

    private static void open() {
        CulpritFinder x = Dues.rowOf(P, U, U, F);
        x.begin(0, 3, 0);
        Dues.test(x, 3, 2);
        Dues.test(x, 0, 1);
        Dues.test(x, 1, 3);
        Dues.test(x, 2, 3);
        Dues.standing(x, 5, 14, -1, -1);
        weights(x, 0, 1, 2, 3);
        Dues.noMoreTests(x);
    }

    private static void openAmongSomeLeft() {
        CulpritFinder x = Dues.rowOf(P, U, P, F);
        x.begin(0, 3, 0);
        Dues.test(x, 3, 2);
        Dues.test(x, 0, 1);
        Dues.test(x, 1, 3);
        // What passed clears its ancestors, the unbuildable one too.
        Dues.test(x, 2, 1);
        Dues.standing(x, 4, 8, 3, 1);
    }

    private static void weightsOfAGraph() {
        CulpritFinder x = new CulpritFinder();
        Dues.commitOf(x, -1, -1, P);
        Dues.commitOf(x, 0, -1, P);
        Dues.commitOf(x, 0, -1, P);
        Dues.commitOf(x, 1, 2, P);
        Dues.commitOf(x, -1, -1, F);
        Dues.commitOf(x, 3, 4, F);
        Dues.commitOf(x, 0, -1, F);
        Dues.commitOf(x, 5, -1, F);
        x.begin(1, 7, 0);
        Dues.test(x, 7, 2);
        Dues.test(x, 1, 1);
        Dues.standing(x, 2, 188, -1, -1);
        weights(x, 0, 0, 1, 2, 1, 4, 0, 5);
        // Commit 3 has 2 of 5 and beats 2, 4 and 5, of which the lesser numbers are 1.
        Dues.test(x, 3, 1);
        Dues.standing(x, 2, 176, -1, -1);
        weights(x, 0, 0, 0, 0, 1, 2, 0, 3);
        Dues.test(x, 4, 2);
        // A root: there is no parent to be tested.
        Dues.standing(x, 4, 16, 4, -1);
        Dues.noMoreTests(x);
    }

    private static void failedLastIsTheBadOne() {
        // Two failing branches: the one that failed last is looked into, the other is no suspect any more.
        CulpritFinder x = new CulpritFinder();
        Dues.commitOf(x, -1, -1, P);
        Dues.commitOf(x, 0, -1, F);
        Dues.commitOf(x, 1, -1, F);
        Dues.commitOf(x, 0, -1, F);
        Dues.commitOf(x, 3, -1, F);
        Dues.commitOf(x, 2, 4, F);
        x.begin(0, 5, 0);
        Dues.test(x, 5, 2);
        Dues.test(x, 0, 1);
        weights(x, 0, 1, 2, 1, 2, 5);
        Dues.test(x, 2, 2);
        Dues.standing(x, 2, 6, -1, -1);
        weights(x, 0, 1, 2, 0, 0, 0);
        Dues.test(x, 1, 2);
        Dues.standing(x, 4, 2, 1, 1);
    }

    private static void culpritWithoutParent() {
        CulpritFinder x = new CulpritFinder();
        Dues.commitOf(x, -1, -1, P);
        Dues.commitOf(x, -1, -1, F);
        Dues.commitOf(x, 0, 1, F);
        x.begin(0, 2, 0);
        Dues.test(x, 2, 2);
        Dues.test(x, 0, 1);
        Dues.standing(x, 2, 6, -1, -1);
        Dues.test(x, 1, 2);
        Dues.standing(x, 4, 2, 1, -1);
        Dues.noMoreTests(x);
    }

    /** The culprit 3 has the first parent 1, which is cleared by 2 and was not tested. */
    private static CulpritFinder lateParent(int code) {
        CulpritFinder x = new CulpritFinder();
        Dues.commitOf(x, -1, -1, P);
        Dues.commitOf(x, 0, -1, code);
        Dues.commitOf(x, 1, -1, P);
        Dues.commitOf(x, 1, 2, F);
        x.begin(2, 3, 0);
        Dues.test(x, 3, 2);
        Dues.test(x, 2, 1);
        Dues.standing(x, 3, 8, 3, -1);
        weights(x, 0, 0, 0, 1);
        Dues.due("next(), the culprit's parent", x.next(), 1);
        return x;
    }

    private static void parentDoesNotPass(int code, int verdict) {
        CulpritFinder x = lateParent(code);
        x.start();
        x.crash();
        Dues.standing(x, 3, 8, 3, -1);
        Dues.test(x, 1, verdict);
        Dues.standing(x, 4, 8, 3, -1);
        weights(x, 0, 0, 0, 1);
        Dues.noMoreTests(x);
    }

    private static void parentPassesWhenTestedLate() {
        CulpritFinder x = lateParent(P);
        Dues.test(x, 1, 1);
        Dues.standing(x, 4, 8, 3, 1);
        Dues.noMoreTests(x);
    }

    private static void parentWasTestedAndIsUnbuildable() {
        CulpritFinder x = new CulpritFinder();
        Dues.commitOf(x, -1, -1, P);
        Dues.commitOf(x, 0, -1, U);
        Dues.commitOf(x, 1, -1, P);
        Dues.commitOf(x, 1, 2, F);
        x.begin(0, 3, 0);
        Dues.test(x, 3, 2);
        Dues.test(x, 0, 1);
        Dues.test(x, 1, 3);
        Dues.test(x, 2, 1);
        Dues.standing(x, 4, 8, 3, -1);
        Dues.noMoreTests(x);
    }

    private static void newCommitsAreNoSuspects() {
        CulpritFinder x = Dues.rowOf(P, P, F, F);
        x.begin(0, 3, 0);
        Dues.test(x, 3, 2);
        Dues.test(x, 0, 1);
        Dues.due("commit(3, 0)", x.commit(3, 0), 4);
        Dues.standing(x, 2, 14, -1, -1);
        weights(x, 0, 1, 2, 3, 0);
        Dues.test(x, 1, 1);
        Dues.test(x, 2, 2);
        Dues.standing(x, 4, 4, 2, 1);
    }

    private static void fourteenCommits() {
        CulpritFinder x = Dues.rowOf(P, F, F, F, F, F, F, F, F, F, F, F, F, F);
        x.begin(0, 13, 0);
        Dues.test(x, 13, 2);
        Dues.test(x, 0, 1);
        Dues.standing(x, 2, 16382, -1, -1);
        Dues.due("weight(13)", x.weight(13), 13);
        Dues.test(x, 6, 2);
        Dues.test(x, 3, 2);
        Dues.test(x, 1, 2);
        Dues.standing(x, 4, 2, 1, 1);
    }
}
