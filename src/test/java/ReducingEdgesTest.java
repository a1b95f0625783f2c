import java.util.HashSet;
import java.util.Set;

/** Promise 18 and the terms' sentences on reducing: from one change to eight, and from two pieces to eight. */
public final class ReducingEdgesTest {
    public static void main(String[] args) {
        oneChangeInEachLine();
        twoChangesOfWhichOneFails();
        twoChangesThatFailTogether();
        threeChanges();
        eightChangesThatAllCount();
        eightChangesOfWhichOneCounts();
        firstPieceThatFails();
        firstRestThatFails();
        piecesAreRoundedDown();
        piecesAreNoMoreThanChanges();
        piecesAreNoFewerThanTwo();
        changesAreByRisingLines();
        testedSetsAreNotTestedAgain();
        allChangesAreNotTested();
        unbuildableSetDoesNotFail();
        setsOfTheParentsOtherLines();
        firstParentOfAMerge();
        crashKeepsTheSets();
        reducedInEveryScene();
        Dues.finishTests();
    }

    /** A search with the input 3 that has come to reducing: commit 1 is the culprit, commit 0 its parent. */
    private static CulpritFinder reducing(int[] parent, int... culprit) {
        CulpritFinder x = new CulpritFinder();
        Dues.commitOf(x, -1, -1, parent);
        Dues.commitOf(x, 0, -1, culprit);
        x.begin(0, 1, 3);
        Dues.test(x, 1, 2);
        Dues.standing(x, 1, 0, -1, -1);
        Dues.test(x, 0, 1);
        return x;
    }

    private static CulpritFinder reducing(int... culprit) {
        return reducing(new int[8], culprit);
    }

    private static void pass(CulpritFinder x, int... sets) {
        testAll(x, 1, sets);
    }

    private static void notBuilt(CulpritFinder x, int... sets) {
        testAll(x, 3, sets);
    }

    private static void testAll(CulpritFinder x, int verdict, int... sets) {
        int reduced = x.reduced();
        for (int set : sets) {
            Dues.due("state() before a set", x.state(), 3);
            Dues.test(x, 1000 + set, verdict);
            Dues.due("reduced() behind " + set, x.reduced(), reduced);
        }
    }

    private static void fail(CulpritFinder x, int set) {
        Dues.due("state() before a set", x.state(), 3);
        Dues.test(x, 1000 + set, 2);
        Dues.due("reduced() behind " + set, x.reduced(), set);
    }

    private static void reducedTo(CulpritFinder x, int set) {
        Dues.standing(x, 4, 2, 1, set);
        Dues.noMoreTests(x);
    }

    /** "If c has one change or none, that is all." (None can't be: the two programs have different verdicts.) */
    private static void oneChangeInEachLine() {
        for (int line = 0; line < 8; line++) {
            int[] culprit = new int[8];
            culprit[line] = 704;
            CulpritFinder x = reducing(culprit);
            reducedTo(x, 1 << line);
            Dues.due("journal()", x.journal(), 2);
        }
    }

    /** Two changes are cut, and a piece of one change is the end. */
    private static void twoChangesOfWhichOneFails() {
        CulpritFinder x = reducing(704, 0, 0, 0, 0, 0, 0, 190);
        Dues.standing(x, 3, 2, 1, 129);
        fail(x, 1);
        reducedTo(x, 1);
        CulpritFinder y = reducing(190, 0, 0, 0, 0, 0, 0, 704);
        pass(y, 1);
        fail(y, 128);
        reducedTo(y, 128);
    }

    /** "if n is less than |c| ..; else that is all: c is the REDUCED set" */
    private static void twoChangesThatFailTogether() {
        CulpritFinder x = reducing(105, 0, 0, 0, 0, 0, 0, 703);
        Dues.standing(x, 3, 2, 1, 129);
        pass(x, 1, 128);
        reducedTo(x, 129);
        Dues.due("journal()", x.journal(), 4);
    }

    private static void threeChanges() {
        // Pieces of 1 and 2 changes, then three of 1; all three are needed.
        CulpritFinder x = reducing(111, 201, 703);
        pass(x, 1);
        notBuilt(x, 6, 2);
        pass(x, 4);
        pass(x, 5, 3);
        reducedTo(x, 7);
    }

    /** The most changes, cut into the most pieces: 2, 4 and 8, and what each of them leaves. */
    private static void eightChangesThatAllCount() {
        CulpritFinder x = reducing(500, 500, 500, 105, 703, 600, 600, 600);
        Dues.standing(x, 3, 2, 1, 255);
        notBuilt(x, 15, 240);
        notBuilt(x, 3, 12, 48, 192, 252, 243, 207, 63);
        notBuilt(x, 1, 2, 4);
        pass(x, 8, 16);
        notBuilt(x, 32, 64, 128, 254, 253, 251);
        pass(x, 247, 239);
        notBuilt(x, 223, 191, 127);
        reducedTo(x, 255);
        Dues.due("journal()", x.journal(), 28);
        Dues.due("entry(27)", x.entry(27), 11273);
        Dues.due("entry(28)", x.entry(28), -1);
    }

    private static void eightChangesOfWhichOneCounts() {
        CulpritFinder x = reducing(704, 190, 190, 190, 190, 190, 190, 190);
        fail(x, 15);
        fail(x, 3);
        fail(x, 1);
        reducedTo(x, 1);
        CulpritFinder y = reducing(190, 190, 190, 190, 190, 190, 190, 704);
        pass(y, 15);
        fail(y, 240);
        pass(y, 48);
        fail(y, 192);
        pass(y, 64);
        fail(y, 128);
        reducedTo(y, 128);
    }

    /** "The pieces are tested in their order; with the first that fails one begins anew, it being c and n 2." */
    private static void firstPieceThatFails() {
        // Each of lines 1 and 2 fails by itself: the piece with line 1 is taken, and the other not tested.
        CulpritFinder x = reducing(190, 704, 705, 190);
        fail(x, 3);
        pass(x, 1);
        fail(x, 2);
        reducedTo(x, 2);
        // Of 4 pieces the second fails, and no half: lines 0 and 7 can't be built without each other.
        CulpritFinder y = reducing(500, 190, 105, 703, 190, 190, 190, 600);
        notBuilt(y, 15, 240, 3);
        fail(y, 12);
        pass(y, 4, 8);
        reducedTo(y, 12);
    }

    /** "what each piece leaves of c is tested, in the order of the pieces; with the first that fails .." */
    private static void firstRestThatFails() {
        // Line 7 fails with either of lines 0 and 2: what is left without line 0, 2 or 3 fails, and is first without 0.
        CulpritFinder x = reducing(105, 0, 105, 190, 0, 0, 0, 703);
        pass(x, 5, 136, 1, 4, 8, 128);
        fail(x, 140);
        fail(x, 132);
        reducedTo(x, 132);
    }

    /** "piece i having the changes at the places from i * |c| / n to (i + 1) * |c| / n - 1 of c (rounded down)" */
    private static void piecesAreRoundedDown() {
        // 3 into 1 and 2; 5 into 2 and 3, then 1, 1, 1 and 2; 6 into 3 and 3, then 1, 2, 1 and 2; 7 into 3 and 4.
        CulpritFinder three = reducing(105, 190, 703);
        pass(three, 1, 6, 2, 4);
        fail(three, 5);
        reducedTo(three, 5);
        CulpritFinder five = reducing(105, 190, 190, 190, 703);
        pass(five, 3, 28, 1, 2, 4, 24, 30);
        fail(five, 29);
        CulpritFinder six = reducing(105, 190, 190, 190, 190, 703);
        pass(six, 7, 56, 1, 6, 8, 48, 62);
        fail(six, 57);
        CulpritFinder seven = reducing(105, 190, 190, 190, 190, 190, 703);
        pass(seven, 7, 120, 1, 6, 24, 96, 126);
        fail(seven, 121);
    }

    /** "one begins anew with n the lesser of 2 * n and |c|" */
    private static void piecesAreNoMoreThanChanges() {
        // 4 changes, of which the first and last count: 2 pieces, then 4, and not 8.
        CulpritFinder x = reducing(105, 190, 190, 703);
        pass(x, 3, 12, 1, 2, 4, 8, 14);
        fail(x, 13);
        // 3 pieces of 3 changes; what the first leaves was tested before.
        fail(x, 9);
        reducedTo(x, 9);
    }

    /** "n the greater of n - 1 and 2" */
    private static void piecesAreNoFewerThanTwo() {
        // Of 3 changes 3 pieces are cut; what the second leaves has 2 changes, which 2 pieces were before.
        CulpritFinder x = reducing(105, 190, 703);
        pass(x, 1, 6, 2, 4);
        fail(x, 5);
        reducedTo(x, 5);
        // From 4 pieces of 6 changes to 3 of 4, which are 1, 1 and 2 changes.
        CulpritFinder y = reducing(105, 190, 190, 190, 190, 703);
        pass(y, 7, 56, 1, 6, 8, 48, 62);
        fail(y, 57);
        fail(y, 49);
        // From 3 pieces of 4 changes to 2 of 3, which are 1 and 2 changes, then to 3.
        pass(y, 16, 32);
        fail(y, 33);
        reducedTo(y, 33);
    }

    /** "by rising lines", of those alone in which the two programs differ */
    private static void changesAreByRisingLines() {
        int[] parent = {111, 0, 122, 0, 133, 0, 144, 0};
        CulpritFinder x = reducing(parent, 111, 105, 122, 190, 133, 190, 144, 703);
        Dues.standing(x, 3, 2, 1, 170);
        pass(x, 10, 160, 2, 8, 32, 128, 168);
        fail(x, 162);
        fail(x, 130);
        reducedTo(x, 130);
    }

    /** "(A set that was tested in this search is not tested again, its verdict counts" */
    private static void testedSetsAreNotTestedAgain() {
        CulpritFinder x = reducing(500, 500, 500, 105, 703, 600, 600, 600);
        Dues.due("sets of a search", playToTheEnd(x), 26);
        Set<Integer> entries = new HashSet<>();
        for (int k = 0; k < 28; k++) {
            Dues.due("entry(" + k + ") is a new one", entries.add(x.entry(k)), true);
        }
        Dues.due("journal()", x.journal(), 28);
        // Another search knows nothing of them.
        x.begin(0, 1, 3);
        Dues.due("tests of a second search", playToTheEnd(x), 28);
    }

    /** How many tests there were. */
    private static int playToTheEnd(CulpritFinder x) {
        int tests = 0;
        while (x.start()) {
            x.finish();
            tests++;
        }
        return tests;
    }

    /** "all changes together count as failing)" */
    private static void allChangesAreNotTested() {
        CulpritFinder x = reducing(105, 190, 703);
        while (x.start()) {
            Dues.due("all changes are tested", x.next() == 1007, false);
            x.finish();
        }
        reducedTo(x, 5);
    }

    /** A set that can't be built is passed over like one that passes. */
    private static void unbuildableSetDoesNotFail() {
        CulpritFinder x = reducing(111, 712, 190, 190);
        fail(x, 3);
        pass(x, 1);
        notBuilt(x, 2);
        reducedTo(x, 3);
    }

    /** "a set of changes is tested as the parent's program with those lines of the culprit's" */
    private static void setsOfTheParentsOtherLines() {
        // The parent sets variable 0 to 4 and checks it; the culprit sets it to 5 and checks for 6.
        int[] parent = {104, 704, 0, 0, 0, 0, 0, 0};
        CulpritFinder x = reducing(parent, 105, 706);
        Dues.standing(x, 3, 2, 1, 3);
        fail(x, 1);
        reducedTo(x, 1);
        int[] other = {704, 104, 704, 0, 0, 0, 0, 0};
        CulpritFinder y = new CulpritFinder();
        Dues.commitOf(y, -1, -1, other);
        Dues.commitOf(y, 0, -1, 705, 104, 706);
        y.begin(0, 1, 4);
        Dues.test(y, 1, 2);
        Dues.test(y, 0, 1);
        Dues.standing(y, 3, 2, 1, 5);
        fail(y, 1);
        reducedTo(y, 1);
    }

    /** "the lines in which the two programs differ": the culprit's and its first parent's. */
    private static void firstParentOfAMerge() {
        CulpritFinder x = new CulpritFinder();
        Dues.commitOf(x, -1, -1, 0, 0, 190);
        Dues.commitOf(x, -1, -1, 190, 190, 190, 190);
        Dues.commitOf(x, 0, 1, 0, 105, 190, 703);
        x.begin(1, 2, 3);
        Dues.test(x, 2, 2);
        Dues.test(x, 1, 1);
        Dues.test(x, 0, 1);
        Dues.standing(x, 3, 4, 2, 10);
        pass(x, 2, 8);
        Dues.standing(x, 4, 4, 2, 10);
    }

    /** "A CRASH loses a test that was started and not finished; the search goes on by the journal." */
    private static void crashKeepsTheSets() {
        CulpritFinder x = reducing(105, 190, 190, 703);
        pass(x, 3, 12);
        x.start();
        x.crash();
        Dues.standing(x, 3, 2, 1, 15);
        pass(x, 1, 2, 4, 8);
        x.crash();
        pass(x, 14);
        fail(x, 13);
        x.start();
        x.crash();
        Dues.standing(x, 3, 2, 1, 13);
        fail(x, 9);
        x.crash();
        reducedTo(x, 9);
        Dues.due("started()", x.started(), 13);
        Dues.due("journal()", x.journal(), 11);
    }

    /** "-1 if the culprit's parent has not been found to pass" */
    private static void reducedInEveryScene() {
        for (Scene scene : Scene.values()) {
            CulpritFinder x = scene.make();
            boolean passed = scene.name().startsWith("REDUC");
            Dues.due(scene + ", reduced()", x.reduced() != -1, passed);
            x.end();
            Dues.due(scene + ", reduced() behind end()", x.reduced(), -1);
        }
        Dues.due("reduced() while reducing", Scene.REDUCING.make().reduced(), 7);
        Dues.due("reduced() at the end", Scene.REDUCED.make().reduced(), 5);
    }
}
