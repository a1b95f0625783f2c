/** Promises 6 to 13 and 19: each sentence's edge at the last value that is allowed and the first that is not. */
public final class SearchEdgesTest {
    private static final int MIN = Integer.MIN_VALUE;
    private static final int MAX = Integer.MAX_VALUE;
    private static final int P = Dues.PASSING;
    private static final int F = Dues.FAILING;

    public static void main(String[] args) {
        goodIsAnotherOne();
        goodIsAnAncestor();
        goodAndBadAreCommits();
        nearestAndFarthestAncestor();
        beginWithAnyInput();
        refusedBeginKeepsTheSearch();
        beginInEveryState();
        endInEveryState();
        endLosesATest();
        setsOfAnEndedSearchDoNotCount();
        commitsOfAnEndedSearchDoNotCount();
        nextInEveryState();
        nextTellsTheLeastAndGreatestSets();
        startInEveryState();
        finishInEveryState();
        finishOfALostTest();
        crashInEveryState();
        crashesInARow();
        crashKeepsTheJournal();
        journalInEveryState();
        entriesFromFirstToLast();
        entriesOfEachVerdict();
        startedCountsStartsAlone();
        startedCountsEndedSearches();
        lastOfFiveHundredAndTwelveCalls();
        Dues.finishTests();
    }

    /** "the good one being another one" */
    private static void goodIsAnotherOne() {
        CulpritFinder x = Dues.rowOf(P, P, F);
        for (int c = 0; c < 3; c++) {
            Dues.due("begin(" + c + ", " + c + ", 0)", x.begin(c, c, 0), false);
        }
        Dues.due("state()", x.state(), 0);
        Dues.due("begin(1, 2, 0)", x.begin(1, 2, 0), true);
    }

    /** "and an ancestor of the bad one" */
    private static void goodIsAnAncestor() {
        CulpritFinder x = Dues.rowOf(P, P);
        x.commit(0, -1);
        x.commit(-1, -1);
        x.commit(1, 3);
        Dues.due("a child", x.begin(1, 0, 0), false);
        Dues.due("a sibling", x.begin(1, 2, 0), false);
        Dues.due("a sibling, the other way", x.begin(2, 1, 0), false);
        Dues.due("a stranger", x.begin(2, 4, 0), false);
        Dues.due("another root", x.begin(3, 1, 0), false);
        Dues.due("a first parent", x.begin(1, 4, 0), true);
        Dues.due("a second parent", x.begin(3, 4, 0), true);
        Dues.due("a grandparent", x.begin(0, 4, 0), true);
    }

    private static void goodAndBadAreCommits() {
        CulpritFinder x = Dues.rowOf(P, P);
        for (int wrong : new int[] {-2, -1, 2, 13, 14, 32, 33, MIN, MAX}) {
            Dues.due("begin(" + wrong + ", 1, 0)", x.begin(wrong, 1, 0), false);
            Dues.due("begin(0, " + wrong + ", 0)", x.begin(0, wrong, 0), false);
            Dues.due("begin(" + wrong + ", " + wrong + ", 0)", x.begin(wrong, wrong, 0), false);
        }
        Dues.due("begin(0, 1, 0)", x.begin(0, 1, 0), true);
    }

    private static void nearestAndFarthestAncestor() {
        CulpritFinder x = Dues.rowOf(P, P, P, P, P, P, P, P, P, P, P, P, P, P);
        Dues.due("begin(0, 13, 0)", x.begin(0, 13, 0), true);
        Dues.due("begin(12, 13, 0)", x.begin(12, 13, 0), true);
        Dues.due("begin(13, 13, 0)", x.begin(13, 13, 0), false);
        Dues.due("begin(13, 14, 0)", x.begin(13, 14, 0), false);
        Dues.due("next()", x.next(), 13);
    }

    /** "and an input" */
    private static void beginWithAnyInput() {
        for (int input : new int[] {MIN, -1, 0, MAX}) {
            // Commit 1 passes with the input 2 alone.
            CulpritFinder x = Dues.rowOf(P, 702);
            Dues.due("begin(0, 1, " + input + ")", x.begin(0, 1, input), true);
            Dues.test(x, 1, 2);
            Dues.due("begin(0, 1, 2)", x.begin(0, 1, 2), true);
            Dues.test(x, 1, 1);
        }
    }

    /** "false, refused (that one stays)" */
    private static void refusedBeginKeepsTheSearch() {
        CulpritFinder x = Scene.HALVING_STARTED.make();
        Dues.due("begin(4, 0, 9)", x.begin(4, 0, 9), false);
        Dues.due("journal()", x.journal(), 2);
        Dues.due("start()", x.start(), false);
        Dues.due("next()", x.next(), 2);
        Dues.due("finish()", x.finish(), 1);
        Dues.standing(x, 2, 24, -1, -1);
    }

    /** "A new search, with an empty journal, instead of one that there may be (a test that it started is lost)" */
    private static void beginInEveryState() {
        for (Scene scene : Scene.values()) {
            if (scene.commits >= 2) {
                CulpritFinder x = scene.make();
                int started = x.started();
                Dues.due(scene + ", begin", x.begin(0, scene.commits - 1, 0), true);
                Dues.standing(x, 1, 0, -1, -1);
                Dues.due(scene + ", journal() behind begin", x.journal(), 0);
                Dues.due(scene + ", entry(0) behind begin", x.entry(0), -1);
                Dues.due(scene + ", weight() behind begin", x.weight(scene.commits - 1), 0);
                Dues.due(scene + ", finish() behind begin", x.finish(), 0);
                Dues.due(scene + ", next() behind begin", x.next(), scene.commits - 1);
                Dues.due(scene + ", started() behind begin", x.started(), started);
                Dues.due(scene + ", start() behind begin", x.start(), true);
            }
        }
    }

    /** "There is no search any more, and the journal is empty; false if there was none." */
    private static void endInEveryState() {
        for (Scene scene : Scene.values()) {
            CulpritFinder x = scene.make();
            int started = x.started();
            Dues.due(scene + ", end()", x.end(), scene.state != 0);
            Dues.standing(x, 0, 0, -1, -1);
            Dues.due(scene + ", journal() behind end", x.journal(), 0);
            Dues.due(scene + ", entry(0) behind end", x.entry(0), -1);
            Dues.due(scene + ", crash() behind end", x.crash(), false);
            Dues.due(scene + ", started() behind end", x.started(), started);
            Dues.noMoreTests(x);
            Dues.due(scene + ", end() again", x.end(), false);
        }
    }

    private static void endLosesATest() {
        CulpritFinder x = Scene.HALVING_STARTED.make();
        x.end();
        Dues.due("finish() behind end()", x.finish(), 0);
        Dues.due("begin(0, 4, 0)", x.begin(0, 4, 0), true);
        Dues.due("finish() of a test of the ended search", x.finish(), 0);
        Dues.due("start()", x.start(), true);
        Dues.due("finish()", x.finish(), 2);
    }

    private static void setsOfAnEndedSearchDoNotCount() {
        CulpritFinder x = Scene.REDUCED.make();
        x.end();
        x.write(1, 0, P);
        Dues.due("begin(0, 1, 4)", x.begin(0, 1, 4), true);
        Dues.test(x, 1, 2);
        Dues.test(x, 0, 1);
        // The sets 2 and 4 were tested before, with other lines and another input.
        Dues.due("reduced()", x.reduced(), 6);
        Dues.test(x, 1002, 1);
        Dues.test(x, 1004, 2);
        Dues.standing(x, 4, 2, 1, 4);
    }

    private static void commitsOfAnEndedSearchDoNotCount() {
        CulpritFinder ended = Scene.HALVING.make();
        Dues.test(ended, 2, 1);
        ended.end();
        CulpritFinder replaced = Scene.HALVING.make();
        Dues.test(replaced, 2, 1);
        for (CulpritFinder x : new CulpritFinder[] {ended, replaced}) {
            x.begin(0, 4, 0);
            Dues.test(x, 4, 2);
            Dues.test(x, 0, 1);
            // 1 and 2 are suspects again, and 2 is tested again.
            Dues.standing(x, 2, 30, -1, -1);
            Dues.test(x, 2, 1);
            Dues.standing(x, 2, 24, -1, -1);
        }
    }

    /** "-1 if there is no search, or no more test", and "(if it was started, and not finished, it)" */
    private static void nextInEveryState() {
        nextIs(-1, Scene.NEW, Scene.ONE_COMMIT, Scene.NO_SEARCH, Scene.FULL, Scene.ENDED);
        nextIs(-1, Scene.REDUCED, Scene.PARENT_FAILS, Scene.PARENT_UNBUILDABLE, Scene.CULPRIT_IS_ROOT);
        nextIs(-1, Scene.OPEN, Scene.REFUSED_BY_BAD, Scene.REFUSED_BY_GOOD);
        nextIs(4, Scene.BAD_NEXT, Scene.BAD_STARTED, Scene.BAD_LOST);
        nextIs(0, Scene.GOOD_NEXT, Scene.GOOD_STARTED);
        nextIs(2, Scene.HALVING, Scene.HALVING_STARTED, Scene.HALVING_LOST, Scene.UNBUILDABLE_PASSED_OVER);
        nextIs(6, Scene.HALVING_FULL);
        nextIs(1, Scene.PARENT_NEXT, Scene.PARENT_STARTED);
        nextIs(1006, Scene.REDUCING, Scene.REDUCING_STARTED, Scene.REDUCING_LOST);
    }

    private static void nextIs(int test, Scene... scenes) {
        for (Scene scene : scenes) {
            CulpritFinder x = scene.make();
            Dues.due(scene + ", next()", x.next(), test);
            Dues.due(scene + ", next() again", x.next(), test);
        }
    }

    /** "1000 + the sum of 2^line over a set of changes": from line 0 alone to all lines but the first. */
    private static void nextTellsTheLeastAndGreatestSets() {
        CulpritFinder x = new CulpritFinder();
        x.commit(-1, -1);
        // Only lines 0 and 7 together fail, with the input 3.
        Dues.commitOf(x, 0, -1, 105, 190, 190, 190, 190, 190, 190, 703);
        x.begin(0, 1, 3);
        Dues.test(x, 1, 2);
        Dues.test(x, 0, 1);
        for (int set : new int[] {15, 240, 3, 12, 48, 192}) {
            Dues.test(x, 1000 + set, 1);
        }
        Dues.test(x, 1252, 1);
        Dues.test(x, 1243, 2);
        Dues.test(x, 1195, 2);
        Dues.test(x, 1001, 1);
        Dues.test(x, 1002, 1);
        Dues.test(x, 1064, 1);
        Dues.test(x, 1128, 1);
        Dues.test(x, 1194, 1);
        Dues.test(x, 1193, 2);
        Dues.test(x, 1129, 2);
        Dues.standing(x, 4, 2, 1, 129);
    }

    /** "The next test is started; false if there is none, or it was started already." */
    private static void startInEveryState() {
        for (Scene scene : Scene.values()) {
            CulpritFinder x = scene.make();
            int started = x.started();
            int journal = x.journal();
            boolean due = scene.hasTestsLeft() && !scene.isStarted();
            Dues.due(scene + ", start()", x.start(), due);
            Dues.due(scene + ", start() again", x.start(), false);
            Dues.due(scene + ", started()", x.started(), started + (due ? 1 : 0));
            Dues.due(scene + ", journal()", x.journal(), journal);
            Dues.due(scene + ", state()", x.state(), scene.state);
        }
    }

    /** "its verdict; 0 if none was started" */
    private static void finishInEveryState() {
        for (Scene scene : Scene.values()) {
            CulpritFinder x = scene.make();
            int journal = x.journal();
            int test = x.next();
            int verdict = x.finish();
            Dues.due(scene + ", finish() has a verdict", verdict != 0, scene.isStarted());
            Dues.due(scene + ", journal()", x.journal(), journal + (scene.isStarted() ? 1 : 0));
            Dues.due(scene + ", its entry", x.entry(journal), scene.isStarted() ? 10 * test + verdict : -1);
            Dues.due(scene + ", finish() again", x.finish(), 0);
        }
        Dues.due("finish() of bad", Scene.BAD_STARTED.make().finish(), 2);
        Dues.due("finish() of good", Scene.GOOD_STARTED.make().finish(), 1);
        Dues.due("finish() of a suspect", Scene.HALVING_STARTED.make().finish(), 1);
        Dues.due("finish() of a parent", Scene.PARENT_STARTED.make().finish(), 1);
        Dues.due("finish() of a set", Scene.REDUCING_STARTED.make().finish(), 1);
    }

    /** "or a crash lost it" */
    private static void finishOfALostTest() {
        for (Scene scene : Scene.values()) {
            CulpritFinder x = scene.make();
            int journal = x.journal();
            x.crash();
            Dues.due(scene + ", finish() behind crash()", x.finish(), 0);
            Dues.due(scene + ", journal()", x.journal(), journal);
        }
    }

    /** "A crash (true, also if no test was started); false if there is no search." */
    private static void crashInEveryState() {
        for (Scene scene : Scene.values()) {
            CulpritFinder x = scene.make();
            int test = x.next();
            int suspects = x.suspects();
            int culprit = x.culprit();
            int reduced = x.reduced();
            Dues.due(scene + ", crash()", x.crash(), scene.state != 0);
            Dues.standing(x, scene.state, suspects, culprit, reduced);
            Dues.due(scene + ", next() behind crash()", x.next(), test);
            Dues.due(scene + ", start() behind crash()", x.start(), scene.hasTestsLeft());
        }
    }

    private static void crashesInARow() {
        CulpritFinder x = Scene.HALVING_STARTED.make();
        Dues.due("crash()", x.crash(), true);
        Dues.due("crash() again", x.crash(), true);
        Dues.due("start()", x.start(), true);
        Dues.due("crash() a third time", x.crash(), true);
        Dues.due("finish()", x.finish(), 0);
        Dues.test(x, 2, 1);
        Dues.due("started()", x.started(), 5);
    }

    /** "the search goes on by the journal": a crash behind each test comes to the same end. */
    private static void crashKeepsTheJournal() {
        CulpritFinder x = Scene.NO_SEARCH.make();
        CulpritFinder y = Scene.NO_SEARCH.make();
        x.begin(0, 4, 0);
        y.begin(0, 4, 0);
        for (int i = 0; i < 4; i++) {
            x.start();
            x.crash();
            x.start();
            y.start();
            Dues.due("finish()", x.finish(), y.finish());
            x.crash();
            Dues.due("entry(" + i + ")", x.entry(i), y.entry(i));
            Dues.standing(x, y.state(), y.suspects(), y.culprit(), y.reduced());
        }
        Dues.standing(x, 4, 8, 3, 1);
        Dues.due("journal()", x.journal(), 4);
        Dues.due("started()", x.started(), 8);
    }

    /** "How many tests are in the journal.": a test that was started is not yet in it. */
    private static void journalInEveryState() {
        journalIs(0, Scene.NEW, Scene.NO_SEARCH, Scene.ENDED, Scene.BAD_NEXT, Scene.BAD_STARTED, Scene.BAD_LOST);
        journalIs(1, Scene.GOOD_NEXT, Scene.GOOD_STARTED, Scene.REFUSED_BY_BAD);
        journalIs(2, Scene.HALVING, Scene.HALVING_STARTED, Scene.HALVING_LOST, Scene.PARENT_NEXT);
        journalIs(2, Scene.REFUSED_BY_GOOD);
        journalIs(3, Scene.REDUCING, Scene.REDUCING_LOST, Scene.PARENT_FAILS, Scene.CULPRIT_IS_ROOT);
        journalIs(4, Scene.OPEN);
        journalIs(7, Scene.REDUCED);
    }

    private static void journalIs(int length, Scene... scenes) {
        for (Scene scene : scenes) {
            CulpritFinder x = scene.make();
            Dues.due(scene + ", journal()", x.journal(), length);
            Dues.due(scene + ", the entry behind the last", x.entry(length), -1);
            Dues.due(scene + ", the last entry is one", x.entry(length - 1) != -1, length > 0);
        }
    }

    /** "Entry k of the journal, from 0 .. -1 if there is none" */
    private static void entriesFromFirstToLast() {
        CulpritFinder x = Scene.REDUCED.make();
        int[] due = {12, 1, 10011, 10061, 10021, 10041, 10052};
        for (int k = 0; k < due.length; k++) {
            Dues.due("entry(" + k + ")", x.entry(k), due[k]);
        }
        for (int k : new int[] {-1, 7, 8, 269, 270, 1000, MIN, MAX}) {
            Dues.due("entry(" + k + ")", x.entry(k), -1);
        }
    }

    /** "10 * the test (as by next) + its verdict" */
    private static void entriesOfEachVerdict() {
        CulpritFinder x = Scene.OPEN.make();
        Dues.due("entry(0)", x.entry(0), 32);
        Dues.due("entry(1), of commit 0", x.entry(1), 1);
        Dues.due("entry(2)", x.entry(2), 13);
        Dues.due("entry(3)", x.entry(3), 23);
    }

    /** "How many tests were started since the constructor (one that a crash lost and is started again counts twice" */
    private static void startedCountsStartsAlone() {
        CulpritFinder x = Scene.NO_SEARCH.make();
        x.start();
        Dues.due("started(), no search", x.started(), 0);
        x.begin(0, 4, 0);
        Dues.due("started(), begun", x.started(), 0);
        x.start();
        Dues.due("started(), one", x.started(), 1);
        x.start();
        Dues.due("started(), refused", x.started(), 1);
        x.crash();
        Dues.due("started(), lost", x.started(), 1);
        x.start();
        Dues.due("started(), again", x.started(), 2);
        x.finish();
        x.finish();
        Dues.due("started(), finished", x.started(), 2);
    }

    /** "ended searches count)" */
    private static void startedCountsEndedSearches() {
        CulpritFinder x = Scene.REDUCED.make();
        Dues.due("started() at the end", x.started(), 7);
        x.start();
        Dues.due("started(), no more tests", x.started(), 7);
        x.end();
        Dues.due("started(), ended", x.started(), 7);
        x.begin(0, 1, 3);
        x.start();
        Dues.due("started(), the first of a new search", x.started(), 8);
        x.begin(0, 1, 3);
        x.start();
        Dues.due("started(), begun instead", x.started(), 9);
    }

    /** "An object is used for at most 512 calls" */
    private static void lastOfFiveHundredAndTwelveCalls() {
        CulpritFinder x = new CulpritFinder();
        x.commit(-1, -1);
        x.commit(0, -1);
        x.begin(0, 1, 0);
        for (int i = 0; i < 254; i++) {
            x.start();
            x.crash();
        }
        Dues.due("the 512th call, started()", x.started(), 254);
    }
}
