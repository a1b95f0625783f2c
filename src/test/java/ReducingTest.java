/** Promises 8, 14 and 18: next, state and reduced from the culprit's parent on. */
public final class ReducingTest {
    public static void main(String[] args) {
        oneChange();
        twoChangesTogether();
        pieceFails();
        restFails();
        unevenPieces();
        sevenChanges();
        setsOfAnEarlierSearch();
        unbuildableSetsDoNotFail();
        changesOfFarLines();
        Dues.finishTests();
    }

    /** A search with input 3 that has come to reducing: commit 1 is the culprit, commit 0 its parent. */
    private static CulpritFinder reducing(int[] parent, int[] culprit) {
        CulpritFinder x = new CulpritFinder();
        Dues.commitOf(x, -1, -1, parent);
        Dues.commitOf(x, 0, -1, culprit);
        x.begin(0, 1, 3);
        Dues.test(x, 1, 2);
        Dues.due("reduced() before the parent passed", x.reduced(), -1);
        Dues.test(x, 0, 1);
        return x;
    }

    private static CulpritFinder reducing(int... culprit) {
        return reducing(new int[0], culprit);
    }

    private static void testSet(CulpritFinder x, int set, int verdict, int reduced) {
        Dues.due("state() before a set", x.state(), 3);
        Dues.test(x, 1000 + set, verdict);
        Dues.due("reduced() behind " + set, x.reduced(), reduced);
    }

    private static void reducedTo(CulpritFinder x, int set) {
        Dues.standing(x, 4, 2, 1, set);
        Dues.noMoreTests(x);
    }

    private static void oneChange() {
        CulpritFinder x = reducing(0, 0, 0, 0, 0, 704);
        reducedTo(x, 32);
    }

    private static void twoChangesTogether() {
        CulpritFinder x = reducing(105, 703);
        Dues.standing(x, 3, 2, 1, 3);
        testSet(x, 1, 1, 3);
        x.start();
        x.crash();
        Dues.standing(x, 3, 2, 1, 3);
        testSet(x, 2, 1, 3);
        // What the pieces leave was tested as the other piece; n is not less than 2.
        reducedTo(x, 3);
    }

    private static void pieceFails() {
        CulpritFinder x = reducing(190, 190, 190, 190, 704, 190, 190, 190);
        Dues.standing(x, 3, 2, 1, 255);
        testSet(x, 15, 1, 255);
        testSet(x, 240, 2, 240);
        testSet(x, 48, 2, 48);
        testSet(x, 16, 2, 16);
        reducedTo(x, 16);
    }

    private static void restFails() {
        // Only lines 2 and 5 together fail.
        CulpritFinder x = reducing(190, 190, 105, 190, 190, 703, 190, 190);
        testSet(x, 15, 1, 255);
        testSet(x, 240, 1, 255);
        testSet(x, 3, 1, 255);
        testSet(x, 12, 1, 255);
        testSet(x, 48, 1, 255);
        testSet(x, 192, 1, 255);
        testSet(x, 252, 2, 252);
        testSet(x, 204, 1, 252);
        testSet(x, 60, 2, 60);
        testSet(x, 4, 1, 60);
        testSet(x, 8, 1, 60);
        testSet(x, 16, 1, 60);
        testSet(x, 32, 1, 60);
        testSet(x, 56, 1, 60);
        testSet(x, 52, 2, 52);
        testSet(x, 36, 2, 36);
        reducedTo(x, 36);
        Dues.due("journal()", x.journal(), 18);
        Dues.due("entry(17)", x.entry(17), 10362);
    }

    private static void unevenPieces() {
        // Changes 0, 2, 3, 6, 7; lines 0, 3 and 7 are needed: pieces of 2 and 3, then of 1, 1, 1 and 2.
        int[] parent = {0, 0, 0, 0, 0, 0, 0, 0};
        CulpritFinder x = reducing(parent, new int[] {111, 0, 190, 201, 0, 0, 190, 703});
        testSet(x, 5, 1, 205);
        testSet(x, 200, 3, 205);
        testSet(x, 1, 1, 205);
        testSet(x, 4, 1, 205);
        testSet(x, 8, 3, 205);
        testSet(x, 192, 1, 205);
        testSet(x, 204, 3, 205);
        testSet(x, 201, 2, 201);
        // Now n is 3, with pieces 1, 8, and 64 and 128.
        testSet(x, 193, 1, 201);
        testSet(x, 9, 1, 201);
        // Now n is 4, the lesser of 6 and 4.
        testSet(x, 64, 1, 201);
        testSet(x, 128, 1, 201);
        testSet(x, 137, 2, 137);
        // Now n is 3, and what the pieces leave is 136, 129 and 9.
        testSet(x, 136, 3, 137);
        testSet(x, 129, 1, 137);
        reducedTo(x, 137);
    }

    private static void sevenChanges() {
        // Lines 0 and 6 are needed. Pieces of 3 and 4 changes, then of 1, 2, 2 and 2.
        CulpritFinder x = reducing(105, 190, 190, 190, 190, 190, 703);
        testSet(x, 7, 1, 127);
        testSet(x, 120, 1, 127);
        testSet(x, 1, 1, 127);
        testSet(x, 6, 1, 127);
        testSet(x, 24, 1, 127);
        testSet(x, 96, 1, 127);
        testSet(x, 126, 1, 127);
        testSet(x, 121, 2, 121);
        // Now n is 3, with pieces of 1, 2 and 2 changes; these, and what the first leaves, were tested before.
        testSet(x, 97, 2, 97);
        // Now n is 2, of 3 changes: 1 and 2; then 3, the lesser of 4 and 3.
        testSet(x, 32, 1, 97);
        testSet(x, 64, 1, 97);
        testSet(x, 65, 2, 65);
        reducedTo(x, 65);
    }

    private static void setsOfAnEarlierSearch() {
        CulpritFinder x = reducing(105, 703);
        testSet(x, 1, 1, 3);
        testSet(x, 2, 1, 3);
        reducedTo(x, 3);
        x.begin(0, 1, 4);
        Dues.test(x, 1, 2);
        Dues.test(x, 0, 1);
        Dues.standing(x, 3, 2, 1, 3);
        testSet(x, 1, 1, 3);
        testSet(x, 2, 2, 2);
        reducedTo(x, 2);
    }

    private static void unbuildableSetsDoNotFail() {
        CulpritFinder x = reducing(111, 711, 500, 600, 712);
        testSet(x, 3, 1, 31);
        testSet(x, 28, 3, 31);
        testSet(x, 1, 1, 31);
        testSet(x, 2, 3, 31);
        testSet(x, 4, 3, 31);
        testSet(x, 24, 3, 31);
        testSet(x, 30, 3, 31);
        testSet(x, 29, 2, 29);
        testSet(x, 25, 3, 29);
        testSet(x, 5, 3, 29);
        testSet(x, 8, 3, 29);
        testSet(x, 16, 3, 29);
        testSet(x, 21, 3, 29);
        testSet(x, 13, 1, 29);
        // The lines of the block can't be left out one by one, so they stay.
        reducedTo(x, 29);
    }

    private static void changesOfFarLines() {
        // Lines that are the same in both programs are no changes, and stay in each set that is tested.
        int[] parent = {110, 0, 0, 703, 0, 0, 710, 0};
        int[] culprit = {110, 112, 0, 703, 191, 0, 710, 704};
        CulpritFinder x = reducing(parent, culprit);
        Dues.standing(x, 3, 2, 1, 146);
        testSet(x, 2, 2, 2);
        reducedTo(x, 2);
    }
}
