/** Promises 14 to 17 and the terms' sentences on refused, halving and open searches: each edge on both its sides. */
public final class HalvingEdgesTest {
    private static final int MIN = Integer.MIN_VALUE;
    private static final int MAX = Integer.MAX_VALUE;
    private static final int P = Dues.PASSING;
    private static final int F = Dues.FAILING;
    private static final int U = Dues.UNBUILDABLE;

    public static void main(String[] args) {
        badIsTestedBeforeGood();
        badDoesNotFail();
        goodDoesNotPass();
        badIsTheOnlySuspect();
        twoSuspects();
        thirteenSuspects();
        ancestorsOfWhatPassedAreNoSuspects();
        goodByASecondParent();
        lastFailedIsTheBadOne();
        lowestNumberOfSeveral();
        greatestOfTheLesser();
        weightCountsAnAncestorOnce();
        weightsAreOfSuspectsAlone();
        testedOnesAreNotTestedAgain();
        openWithTwoLeft();
        openWithAllLeft();
        openBecauseOfABranch();
        unbuildableOneIsCleared();
        culpritWithoutAParent();
        culpritIsTheBadOneItself();
        parentWasTestedAsGood();
        parentWasTestedAndNotBuilt();
        parentIsTestedLate();
        secondParentIsNotTested();
        failingParentIsNoCulprit();
        stateInEveryScene();
        suspectsInEveryScene();
        weightInEveryScene();
        weightOfWhatIsNoCommit();
        culpritInEveryScene();
        Dues.finishTests();
    }

    private static CulpritFinder halving(CulpritFinder x, int good, int bad) {
        Dues.due("begin(" + good + ", " + bad + ", 0)", x.begin(good, bad, 0), true);
        Dues.test(x, bad, 2);
        Dues.test(x, good, 1);
        return x;
    }

    private static void weights(CulpritFinder x, int... due) {
        for (int c = 0; c < due.length; c++) {
            Dues.due("weight(" + c + ")", x.weight(c), due[c]);
        }
    }

    /** "First the bad commit, then the good one." */
    private static void badIsTestedBeforeGood() {
        CulpritFinder x = Dues.rowOf(P, F);
        x.begin(0, 1, 0);
        Dues.test(x, 1, 2);
        Dues.due("state() between them", x.state(), 1);
        Dues.due("suspects() between them", x.suspects(), 0);
        Dues.test(x, 0, 1);
    }

    /** "If the first does not fail .. the search is REFUSED, and there are no more." */
    private static void badDoesNotFail() {
        int[] codes = {P, U};
        int[] verdicts = {1, 3};
        for (int i = 0; i < codes.length; i++) {
            CulpritFinder x = Dues.rowOf(P, P, codes[i]);
            x.begin(0, 2, 0);
            Dues.test(x, 2, verdicts[i]);
            Dues.standing(x, 6, 0, -1, -1);
            weights(x, 0, 0, 0);
            Dues.noMoreTests(x);
            Dues.due("journal()", x.journal(), 1);
            Dues.due("crash()", x.crash(), true);
            Dues.due("state() behind a crash", x.state(), 6);
        }
    }

    /** "or the second does not pass" */
    private static void goodDoesNotPass() {
        int[] codes = {F, U};
        int[] verdicts = {2, 3};
        for (int i = 0; i < codes.length; i++) {
            CulpritFinder x = Dues.rowOf(codes[i], P, F);
            x.begin(0, 2, 0);
            Dues.test(x, 2, 2);
            Dues.test(x, 0, verdicts[i]);
            Dues.standing(x, 6, 0, -1, -1);
            weights(x, 0, 0, 0);
            Dues.noMoreTests(x);
            Dues.due("journal()", x.journal(), 2);
            Dues.due("crash()", x.crash(), true);
            Dues.due("state() behind a crash", x.state(), 6);
        }
    }

    /** "if the bad one is the only suspect, it is the CULPRIT": at once, if good is its only parent. */
    private static void badIsTheOnlySuspect() {
        CulpritFinder x = halving(Dues.rowOf(P, P, F), 1, 2);
        Dues.standing(x, 4, 4, 2, 1);
        weights(x, 0, 0, 1);
        Dues.noMoreTests(x);
    }

    private static void twoSuspects() {
        CulpritFinder x = halving(Dues.rowOf(P, P, F), 0, 2);
        Dues.standing(x, 2, 6, -1, -1);
        weights(x, 0, 1, 2);
        Dues.test(x, 1, 1);
        Dues.standing(x, 4, 4, 2, 1);
        CulpritFinder y = halving(Dues.rowOf(P, F, F), 0, 2);
        Dues.test(y, 1, 2);
        Dues.standing(y, 4, 2, 1, 1);
    }

    /** As many as there can be: all 14 commits but the good one. */
    private static void thirteenSuspects() {
        CulpritFinder x = halving(Dues.rowOf(P, P, P, P, P, P, P, P, P, P, P, P, P, F), 0, 13);
        Dues.standing(x, 2, (1 << 14) - 2, -1, -1);
        weights(x, 0, 1, 2, 3, 4, 5, 6, 7, 8, 9, 10, 11, 12, 13, 0);
        Dues.test(x, 6, 1);
        Dues.test(x, 9, 1);
        Dues.test(x, 11, 1);
        Dues.test(x, 12, 1);
        Dues.standing(x, 4, 1 << 13, 13, 1);
    }

    /** "the ancestors of the bad commit that are no ancestors of a commit that passed" */
    private static void ancestorsOfWhatPassedAreNoSuspects() {
        CulpritFinder x = Dues.rowOf(P, P, P);
        Dues.commitOf(x, 1, -1, F);
        Dues.commitOf(x, 2, 3, F);
        Dues.commitOf(x, 4, -1, F);
        Dues.commitOf(x, 0, -1, F);
        // 0 and 1 are ancestors of the good one, 5 and 6 no ancestors of the bad one.
        halving(x, 2, 4);
        Dues.standing(x, 2, 24, -1, -1);
        weights(x, 0, 0, 0, 1, 2, 0, 0);
    }

    private static void goodByASecondParent() {
        CulpritFinder x = Dues.rowOf(P);
        Dues.commitOf(x, -1, -1, P);
        Dues.commitOf(x, 0, 1, F);
        halving(x, 1, 2);
        Dues.standing(x, 2, 5, -1, -1);
        weights(x, 1, 0, 2);
        Dues.test(x, 0, 1);
        Dues.standing(x, 4, 4, 2, 1);
    }

    /** "where the bad one is now the commit that failed last" */
    private static void lastFailedIsTheBadOne() {
        CulpritFinder x = halving(Dues.rowOf(P, P, F, F, P, F), 0, 5);
        // 2 fails, so that 3, 4 and 5 are no suspects any more, whatever they would do.
        Dues.test(x, 2, 2);
        Dues.standing(x, 2, 6, -1, -1);
        weights(x, 0, 1, 2, 0, 0, 0);
        Dues.test(x, 1, 1);
        Dues.standing(x, 4, 4, 2, 1);
    }

    /** "of several the one with the lowest number" */
    private static void lowestNumberOfSeveral() {
        // Of 3 suspects in a row, 1 and 2 have the lesser number 1.
        CulpritFinder x = halving(Dues.rowOf(P, P, P, F), 0, 3);
        Dues.due("next() of 3 suspects", x.next(), 1);
        // Of 5 suspects in a row, 2 and 3 have the lesser number 2.
        CulpritFinder y = halving(Dues.rowOf(P, P, P, P, P, F), 0, 5);
        Dues.due("next() of 5 suspects", y.next(), 2);
        // Here the lower number has the greater weight.
        CulpritFinder z = Dues.rowOf(P, P, P);
        Dues.commitOf(z, 0, -1, P);
        Dues.commitOf(z, 2, 3, F);
        halving(z, 0, 4);
        weights(z, 0, 1, 2, 1, 4);
        Dues.due("next() in a graph", z.next(), 2);
    }

    /** "for which the lesser of its weight and the number of suspects less its weight is greatest" */
    private static void greatestOfTheLesser() {
        // Of 4 suspects in a row, 2 has the lesser number 2, 1 and 3 have 1.
        CulpritFinder x = halving(Dues.rowOf(P, P, P, P, F), 0, 4);
        Dues.due("next() of 4 suspects", x.next(), 2);
        // 5 has the weight 5 of 6, and so a lesser number than 2 with 2 of 6.
        CulpritFinder y = Dues.rowOf(P, P, P);
        Dues.commitOf(y, 0, -1, P);
        Dues.commitOf(y, 0, -1, P);
        Dues.commitOf(y, 2, 3, P);
        Dues.commitOf(y, 5, 4, F);
        halving(y, 0, 6);
        weights(y, 0, 1, 2, 1, 1, 4, 6);
        Dues.due("next() in a graph", y.next(), 2);
    }

    /** "the number of its ancestors that are suspects": one that is reached in two ways counts once. */
    private static void weightCountsAnAncestorOnce() {
        CulpritFinder x = Dues.rowOf(P, P);
        Dues.commitOf(x, 1, -1, P);
        Dues.commitOf(x, 1, -1, P);
        Dues.commitOf(x, 2, 3, F);
        halving(x, 0, 4);
        weights(x, 0, 1, 2, 2, 4);
    }

    private static void weightsAreOfSuspectsAlone() {
        CulpritFinder x = halving(Dues.rowOf(P, P, P, P, P, F), 0, 5);
        weights(x, 0, 1, 2, 3, 4, 5, 0);
        Dues.test(x, 2, 1);
        weights(x, 0, 0, 0, 1, 2, 3, 0);
        Dues.test(x, 3, 1);
        weights(x, 0, 0, 0, 0, 1, 2, 0);
        Dues.test(x, 4, 1);
        weights(x, 0, 0, 0, 0, 0, 1, 0);
    }

    /** "Of the suspects other than the bad one that were not tested": what can't be built is passed over. */
    private static void testedOnesAreNotTestedAgain() {
        CulpritFinder x = halving(Dues.rowOf(P, U, U, U, U, F), 0, 5);
        for (int c : new int[] {2, 3, 1, 4}) {
            Dues.standing(x, 2, 62, -1, -1);
            Dues.test(x, c, 3);
        }
        Dues.standing(x, 5, 62, -1, -1);
        Dues.due("journal()", x.journal(), 6);
    }

    /** "otherwise it is OPEN which suspect it is, and there are no more tests": the fewest that are open. */
    private static void openWithTwoLeft() {
        CulpritFinder x = halving(Dues.rowOf(P, U, F), 0, 2);
        Dues.standing(x, 2, 6, -1, -1);
        Dues.test(x, 1, 3);
        Dues.standing(x, 5, 6, -1, -1);
        weights(x, 0, 1, 2);
        Dues.noMoreTests(x);
        Dues.due("crash()", x.crash(), true);
        Dues.standing(x, 5, 6, -1, -1);
    }

    private static void openWithAllLeft() {
        CulpritFinder x = halving(Dues.rowOf(P, U, U, U, U, U, U, U, U, U, U, U, U, F), 0, 13);
        for (int i = 0; i < 12; i++) {
            Dues.due("start()", x.start(), true);
            Dues.due("finish()", x.finish(), 3);
        }
        Dues.standing(x, 5, (1 << 14) - 2, -1, -1);
        Dues.due("weight(13)", x.weight(13), 13);
        Dues.due("journal()", x.journal(), 14);
        Dues.noMoreTests(x);
    }

    private static void openBecauseOfABranch() {
        CulpritFinder x = Dues.rowOf(P, P);
        Dues.commitOf(x, 0, -1, U);
        Dues.commitOf(x, 1, 2, F);
        halving(x, 0, 3);
        Dues.test(x, 1, 1);
        Dues.test(x, 2, 3);
        // Though its first parent passes, it may be the other branch.
        Dues.standing(x, 5, 12, -1, -1);
        weights(x, 0, 0, 1, 2);
    }

    private static void unbuildableOneIsCleared() {
        CulpritFinder x = halving(Dues.rowOf(P, U, P, F), 0, 3);
        Dues.test(x, 1, 3);
        Dues.test(x, 2, 1);
        Dues.standing(x, 4, 8, 3, 1);
    }

    /** "For a culprit with a parent": one without a parent is the end. */
    private static void culpritWithoutAParent() {
        CulpritFinder x = Scene.CULPRIT_IS_ROOT.make();
        Dues.standing(x, 4, 2, 1, -1);
        weights(x, 0, 1, 0);
        Dues.noMoreTests(x);
        Dues.due("crash()", x.crash(), true);
        Dues.standing(x, 4, 2, 1, -1);
    }

    private static void culpritIsTheBadOneItself() {
        CulpritFinder x = halving(Dues.rowOf(P, P, P, F), 0, 3);
        Dues.test(x, 1, 1);
        Dues.test(x, 2, 1);
        Dues.standing(x, 4, 8, 3, 1);
    }

    /** "its first parent is tested, if it was not yet" */
    private static void parentWasTestedAsGood() {
        CulpritFinder x = halving(Dues.rowOf(P, F), 0, 1);
        Dues.standing(x, 4, 2, 1, 1);
        Dues.due("journal()", x.journal(), 2);
    }

    private static void parentWasTestedAndNotBuilt() {
        CulpritFinder x = Dues.rowOf(P, U, P);
        Dues.commitOf(x, 1, 2, F);
        halving(x, 0, 3);
        Dues.test(x, 1, 3);
        Dues.test(x, 2, 1);
        Dues.standing(x, 4, 8, 3, -1);
        Dues.noMoreTests(x);
    }

    private static void parentIsTestedLate() {
        CulpritFinder x = Scene.PARENT_NEXT.make();
        Dues.standing(x, 3, 8, 3, -1);
        Dues.test(x, 1, 1);
        Dues.standing(x, 4, 8, 3, 1);
    }

    private static void secondParentIsNotTested() {
        // The first parent is the good one; the second, 1, was not tested and is no suspect.
        CulpritFinder x = Dues.rowOf(P, U, P);
        Dues.commitOf(x, 2, 1, F);
        halving(x, 2, 3);
        Dues.standing(x, 4, 8, 3, 1);
        Dues.noMoreTests(x);
    }

    /** "unless it passes, there are no more tests", and "(only tests up to the culprit count here)" */
    private static void failingParentIsNoCulprit() {
        for (Scene scene : new Scene[] {Scene.PARENT_FAILS, Scene.PARENT_UNBUILDABLE}) {
            CulpritFinder x = scene.make();
            Dues.standing(x, 4, 8, 3, -1);
            weights(x, 0, 0, 0, 1);
            Dues.noMoreTests(x);
            Dues.due("crash()", x.crash(), true);
            Dues.standing(x, 4, 8, 3, -1);
        }
    }

    /** "0 no search, 1 .. 6 refused" */
    private static void stateInEveryScene() {
        for (Scene scene : Scene.values()) {
            CulpritFinder x = scene.make();
            Dues.due(scene + ", state()", x.state(), scene.state);
            x.end();
            Dues.due(scene + ", state() behind end()", x.state(), 0);
        }
    }

    /** "0 if there is no search, or it is in the states 1 or 6", and "(in 3 and 4 the culprit alone ..)" */
    private static void suspectsInEveryScene() {
        for (Scene scene : Scene.values()) {
            CulpritFinder x = scene.make();
            int suspects = x.suspects();
            if (scene.state == 0 || scene.state == 1 || scene.state == 6) {
                Dues.due(scene + ", suspects()", suspects, 0);
            } else if (scene.state == 3 || scene.state == 4) {
                Dues.due(scene + ", suspects()", suspects, 1 << x.culprit());
            } else {
                Dues.due(scene + ", several suspects()", Integer.bitCount(suspects) > 1, true);
            }
        }
        Dues.due("suspects() in halving", Scene.HALVING.make().suspects(), 30);
        Dues.due("suspects() of an open search", Scene.OPEN.make().suspects(), 14);
    }

    /** "The weight of a suspect; 0 if it is none." */
    private static void weightInEveryScene() {
        for (Scene scene : Scene.values()) {
            CulpritFinder x = scene.make();
            int suspects = x.suspects();
            for (int c = 0; c < scene.commits; c++) {
                boolean suspected = (suspects >> c & 1) != 0;
                Dues.due(scene + ", weight(" + c + ") is none", x.weight(c) == 0, !suspected);
            }
        }
    }

    private static void weightOfWhatIsNoCommit() {
        CulpritFinder x = Scene.HALVING_FULL.make();
        Dues.due("weight(0), the good one", x.weight(0), 0);
        Dues.due("weight(1)", x.weight(1), 1);
        Dues.due("weight(13)", x.weight(13), 13);
        // Some of these would be suspects if their low bits alone were looked at.
        for (int c : new int[] {-1, 14, 15, 31, 32, 33, 45, 64, 65, -31, -19, MIN, MIN + 1, MAX}) {
            Dues.due("weight(" + c + ")", x.weight(c), 0);
        }
    }

    /** "The culprit (also if its parent does not pass); -1 if there is none (yet)." */
    private static void culpritInEveryScene() {
        for (Scene scene : Scene.values()) {
            boolean found = scene.state == 3 || scene.state == 4;
            Dues.due(scene + ", culprit()", scene.make().culprit() != -1, found);
        }
        Dues.due("culprit() of PARENT_NEXT", Scene.PARENT_NEXT.make().culprit(), 3);
        Dues.due("culprit() of PARENT_FAILS", Scene.PARENT_FAILS.make().culprit(), 3);
        Dues.due("culprit() of PARENT_UNBUILDABLE", Scene.PARENT_UNBUILDABLE.make().culprit(), 3);
        Dues.due("culprit() of REDUCED", Scene.REDUCED.make().culprit(), 1);
        CulpritFinder highest = halving(Dues.rowOf(P, P, P, P, P, P, P, P, P, P, P, P, P, F), 12, 13);
        Dues.due("culprit() of the highest number", highest.culprit(), 13);
        CulpritFinder lowest = Dues.rowOf(F);
        Dues.commitOf(lowest, -1, -1, P);
        Dues.commitOf(lowest, 0, 1, F);
        halving(lowest, 1, 2);
        Dues.test(lowest, 0, 2);
        Dues.standing(lowest, 4, 1, 0, -1);
    }
}
