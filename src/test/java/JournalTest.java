/** Promises 6 to 13 and 19: begin, end, next, start, finish, crash, journal, entry, started. */
public final class JournalTest {
    public static void main(String[] args) {
        beginRefusals();
        beginInsteadOfASearch();
        endForgetsAll();
        startAndFinish();
        crashLosesATest();
        entries();
        startedCounts();
        Dues.finishTests();
    }

    private static CulpritFinder row() {
        return Dues.rowOf(Dues.PASSING, Dues.PASSING, Dues.PASSING, Dues.FAILING, Dues.FAILING);
    }

    private static void beginRefusals() {
        CulpritFinder x = row();
        x.commit(0, -1);
        x.commit(5, 2);
        Dues.due("begin(0, 0, 0)", x.begin(0, 0, 0), false);
        Dues.due("begin(4, 0, 0)", x.begin(4, 0, 0), false);
        Dues.due("begin(1, 5, 0)", x.begin(1, 5, 0), false);
        Dues.due("begin(3, 6, 0)", x.begin(3, 6, 0), false);
        Dues.due("begin(-1, 4, 0)", x.begin(-1, 4, 0), false);
        Dues.due("begin(0, 7, 0)", x.begin(0, 7, 0), false);
        Dues.due("begin(0, -1, 0)", x.begin(0, -1, 0), false);
        Dues.due("begin(7, 7, 0)", x.begin(7, 7, 0), false);
        Dues.due("begin(MIN, MAX, 0)", x.begin(Integer.MIN_VALUE, Integer.MAX_VALUE, 0), false);
        Dues.due("begin(32, 4, 0)", x.begin(32, 4, 0), false);
        Dues.standing(x, 0, 0, -1, -1);
        Dues.due("begin by a second parent", x.begin(1, 6, 0), true);
        Dues.due("next()", x.next(), 6);
        Dues.due("begin by a first parent", x.begin(5, 6, 0), true);
        Dues.due("begin of a far ancestor", x.begin(0, 4, 0), true);
    }

    private static void beginInsteadOfASearch() {
        CulpritFinder x = row();
        x.begin(0, 4, 0);
        Dues.test(x, 4, 2);
        x.start();
        Dues.due("begin(4, 0, 9)", x.begin(4, 0, 9), false);
        Dues.due("journal() of the search that stays", x.journal(), 1);
        Dues.due("finish() of the search that stays", x.finish(), 1);
        Dues.standing(x, 2, 30, -1, -1);
        x.start();
        Dues.due("begin(1, 3, 0)", x.begin(1, 3, 0), true);
        Dues.standing(x, 1, 0, -1, -1);
        Dues.due("finish() of the lost test", x.finish(), 0);
        Dues.due("journal()", x.journal(), 0);
        Dues.due("entry(0)", x.entry(0), -1);
        Dues.test(x, 3, 2);
        Dues.test(x, 1, 1);
        Dues.standing(x, 2, 12, -1, -1);
        // Verdicts of an earlier search do not count: what passed in it is suspected again.
        x.begin(0, 4, 0);
        Dues.test(x, 4, 2);
        Dues.test(x, 0, 1);
        Dues.standing(x, 2, 30, -1, -1);
        // All is tested anew, with the new input.
        Dues.due("begin(0, 4, 1)", x.begin(0, 4, 1), true);
        Dues.test(x, 4, 1);
        Dues.standing(x, 6, 0, -1, -1);
    }

    private static void endForgetsAll() {
        CulpritFinder x = row();
        Dues.due("end() without a search", x.end(), false);
        x.begin(0, 4, 0);
        Dues.test(x, 4, 2);
        x.start();
        Dues.due("end()", x.end(), true);
        Dues.due("journal()", x.journal(), 0);
        Dues.due("entry(0)", x.entry(0), -1);
        Dues.standing(x, 0, 0, -1, -1);
        Dues.noMoreTests(x);
        Dues.due("end() again", x.end(), false);
        x.begin(2, 3, 0);
        Dues.test(x, 3, 2);
        Dues.test(x, 2, 1);
        Dues.standing(x, 4, 8, 3, 1);
        Dues.due("end() of a search with a culprit", x.end(), true);
        Dues.standing(x, 0, 0, -1, -1);
        Dues.due("weight(3)", x.weight(3), 0);
    }

    private static void startAndFinish() {
        CulpritFinder x = row();
        Dues.noMoreTests(x);
        x.begin(0, 4, 0);
        Dues.due("finish() before start()", x.finish(), 0);
        Dues.due("journal()", x.journal(), 0);
        Dues.due("start()", x.start(), true);
        Dues.due("start() again", x.start(), false);
        Dues.due("next()", x.next(), 4);
        Dues.due("journal(), started", x.journal(), 0);
        Dues.due("state(), started", x.state(), 1);
        Dues.due("finish()", x.finish(), 2);
        Dues.due("finish() again", x.finish(), 0);
        Dues.due("journal()", x.journal(), 1);
        Dues.due("next()", x.next(), 0);
    }

    private static void crashLosesATest() {
        CulpritFinder x = row();
        Dues.due("crash() without a search", x.crash(), false);
        x.begin(0, 4, 0);
        Dues.due("crash() without a test", x.crash(), true);
        x.start();
        Dues.due("crash()", x.crash(), true);
        Dues.due("finish() of the lost test", x.finish(), 0);
        Dues.due("journal()", x.journal(), 0);
        Dues.test(x, 4, 2);
        Dues.due("crash() between tests", x.crash(), true);
        Dues.due("journal()", x.journal(), 1);
        Dues.due("entry(0)", x.entry(0), 42);
        Dues.test(x, 0, 1);
        x.start();
        x.crash();
        Dues.standing(x, 2, 30, -1, -1);
        Dues.test(x, 2, 1);
        Dues.test(x, 3, 2);
        Dues.standing(x, 4, 8, 3, 1);
        Dues.due("crash() at the end", x.crash(), true);
        Dues.standing(x, 4, 8, 3, 1);
        Dues.due("started()", x.started(), 6);
        Dues.due("journal()", x.journal(), 4);
    }

    private static void entries() {
        CulpritFinder x = Dues.rowOf(Dues.PASSING, Dues.UNBUILDABLE, Dues.FAILING);
        int c = Dues.commitOf(x, 0, -1, 105, 0, 703);
        x.begin(0, 2, 3);
        Dues.test(x, 2, 2);
        Dues.test(x, 0, 1);
        Dues.test(x, 1, 3);
        Dues.due("journal()", x.journal(), 3);
        Dues.due("entry(0)", x.entry(0), 22);
        Dues.due("entry(1)", x.entry(1), 1);
        Dues.due("entry(2)", x.entry(2), 13);
        Dues.due("entry(3)", x.entry(3), -1);
        Dues.due("entry(-1)", x.entry(-1), -1);
        Dues.due("entry(MAX)", x.entry(Integer.MAX_VALUE), -1);
        Dues.due("entry(MIN)", x.entry(Integer.MIN_VALUE), -1);
        x.begin(0, c, 3);
        Dues.test(x, 3, 2);
        Dues.test(x, 0, 1);
        Dues.test(x, 1001, 1);
        Dues.test(x, 1004, 1);
        Dues.due("entry(2) of a set", x.entry(2), 10011);
        Dues.due("entry(3) of a set", x.entry(3), 10041);
        Dues.due("entry(4)", x.entry(4), -1);
    }

    private static void startedCounts() {
        CulpritFinder x = row();
        x.begin(0, 4, 0);
        x.start();
        x.start();
        Dues.due("started(), a refused start", x.started(), 1);
        x.crash();
        x.start();
        Dues.due("started(), lost and started again", x.started(), 2);
        x.finish();
        Dues.due("started(), finished", x.started(), 2);
        x.start();
        x.end();
        Dues.due("started(), ended", x.started(), 3);
        x.start();
        x.begin(1, 4, 0);
        x.start();
        x.begin(0, 4, 0);
        Dues.due("started(), begun anew", x.started(), 4);
        Dues.due("start()", x.start(), true);
        Dues.due("started()", x.started(), 5);
    }
}
