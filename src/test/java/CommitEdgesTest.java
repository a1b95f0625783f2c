/** Promises 1 to 4: each sentence's edge at the last value that is allowed and the first that is not. */
public final class CommitEdgesTest {
    private static final int MIN = Integer.MIN_VALUE;
    private static final int MAX = Integer.MAX_VALUE;

    public static void main(String[] args) {
        newObjectHasNoCommits();
        newObjectHasNoSearch();
        newObjectsShareNothing();
        numbersRunFromZeroToThirteen();
        fourteenOfAnyKindAreAllThereIs();
        parentMinusOneIsNone();
        firstParentIsACommit();
        secondParentIsACommit();
        secondParentWithoutAFirst();
        bothParentsAreTheSame();
        linesOfTheFirstParentAlone();
        rootHasLinesZero();
        linesAreCopiedAndNotShared();
        commitInEveryState();
        commitDoesNotLoseATest();
        writeToFirstAndLastCommit();
        writeToFirstAndLastLine();
        writeFirstAndLastCode();
        writeAnyCode();
        writeToAParent();
        refusedCommitMakesNoParent();
        writeInEveryState();
        lineOfFirstAndLastCommit();
        lineOutOfReach();
        Dues.finishTests();
    }

    private static CulpritFinder roots(int count) {
        CulpritFinder x = new CulpritFinder();
        for (int c = 0; c < count; c++) {
            Dues.due("commit(-1, -1)", x.commit(-1, -1), c);
        }
        return x;
    }

    /** "No commits" */
    private static void newObjectHasNoCommits() {
        CulpritFinder x = new CulpritFinder();
        Dues.due("line(0, 0)", x.line(0, 0), -1);
        Dues.due("verdict(0, 0)", x.verdict(0, 0), 0);
        Dues.due("write(0, 0, 0)", x.write(0, 0, 0), false);
        Dues.due("commit(0, -1)", x.commit(0, -1), -1);
        Dues.due("begin(0, 1, 0)", x.begin(0, 1, 0), false);
        Dues.due("weight(0)", x.weight(0), 0);
        Dues.due("commit(-1, -1)", x.commit(-1, -1), 0);
    }

    /** "no search" */
    private static void newObjectHasNoSearch() {
        CulpritFinder x = new CulpritFinder();
        Dues.standing(x, 0, 0, -1, -1);
        Dues.noMoreTests(x);
        Dues.due("journal()", x.journal(), 0);
        Dues.due("entry(0)", x.entry(0), -1);
        Dues.due("started()", x.started(), 0);
        Dues.due("crash()", x.crash(), false);
        Dues.due("end()", x.end(), false);
    }

    private static void newObjectsShareNothing() {
        CulpritFinder one = Scene.HALVING_STARTED.make();
        CulpritFinder other = new CulpritFinder();
        Dues.standing(other, 0, 0, -1, -1);
        Dues.due("started() of the other", other.started(), 0);
        Dues.due("commit() of the other", other.commit(-1, -1), 0);
        Dues.due("write() to the other", other.write(0, 0, 900), true);
        Dues.due("line(0, 0) of the one", one.line(0, 0), 0);
        Dues.due("finish() of the other", other.finish(), 0);
        Dues.due("finish() of the one", one.finish(), 1);
    }

    /** "COMMITS have the numbers 0, 1, .., at most 14", and "or there are 14" */
    private static void numbersRunFromZeroToThirteen() {
        CulpritFinder x = roots(13);
        Dues.due("the fourteenth commit", x.commit(12, -1), 13);
        Dues.due("the fifteenth commit", x.commit(13, -1), -1);
        Dues.due("line(13, 0)", x.line(13, 0), 0);
        Dues.due("line(14, 0)", x.line(14, 0), -1);
    }

    private static void fourteenOfAnyKindAreAllThereIs() {
        CulpritFinder x = roots(14);
        Dues.due("a root", x.commit(-1, -1), -1);
        Dues.due("one parent", x.commit(0, -1), -1);
        Dues.due("two parents", x.commit(0, 13), -1);
        // None of them has become a parent by it.
        Dues.due("write(0, 0, 1)", x.write(0, 0, 1), true);
        Dues.due("write(13, 0, 1)", x.write(13, 0, 1), true);
    }

    /** "a parent -1 is none" */
    private static void parentMinusOneIsNone() {
        CulpritFinder x = roots(2);
        Dues.due("commit(1, -1)", x.commit(1, -1), 2);
        Dues.due("begin(1, 2, 0)", x.begin(1, 2, 0), true);
        Dues.due("begin(0, 2, 0)", x.begin(0, 2, 0), false);
        Dues.due("begin(0, 1, 0)", x.begin(0, 1, 0), false);
    }

    /** "if a parent is neither -1 nor a commit" */
    private static void firstParentIsACommit() {
        CulpritFinder x = roots(3);
        Dues.due("commit(-2, -1)", x.commit(-2, -1), -1);
        Dues.due("commit(3, -1), its own number", x.commit(3, -1), -1);
        Dues.due("commit(13, -1)", x.commit(13, -1), -1);
        Dues.due("commit(32, -1)", x.commit(32, -1), -1);
        Dues.due("commit(MIN, -1)", x.commit(MIN, -1), -1);
        Dues.due("commit(MAX, -1)", x.commit(MAX, -1), -1);
        Dues.due("commit(0, -1)", x.commit(0, -1), 3);
        Dues.due("commit(3, -1), the last one", x.commit(3, -1), 4);
    }

    private static void secondParentIsACommit() {
        CulpritFinder x = roots(3);
        Dues.due("commit(0, -2)", x.commit(0, -2), -1);
        Dues.due("commit(0, 3), its own number", x.commit(0, 3), -1);
        Dues.due("commit(0, 13)", x.commit(0, 13), -1);
        Dues.due("commit(0, 32)", x.commit(0, 32), -1);
        Dues.due("commit(0, MIN)", x.commit(0, MIN), -1);
        Dues.due("commit(0, MAX)", x.commit(0, MAX), -1);
        Dues.due("commit(2, 0)", x.commit(2, 0), 3);
        Dues.due("commit(0, 3), the last one", x.commit(0, 3), 4);
    }

    /** "there is a second one without a first" */
    private static void secondParentWithoutAFirst() {
        CulpritFinder x = roots(2);
        Dues.due("commit(-1, 0)", x.commit(-1, 0), -1);
        Dues.due("commit(-1, 1)", x.commit(-1, 1), -1);
        Dues.due("commit(-1, -1)", x.commit(-1, -1), 2);
    }

    /** "both are the same" */
    private static void bothParentsAreTheSame() {
        CulpritFinder x = roots(2);
        Dues.due("commit(0, 0)", x.commit(0, 0), -1);
        Dues.due("commit(1, 1)", x.commit(1, 1), -1);
        Dues.due("commit(0, 1)", x.commit(0, 1), 2);
        Dues.due("commit(0, 1) again", x.commit(0, 1), 3);
        Dues.due("commit(1, 0)", x.commit(1, 0), 4);
    }

    /** "with the lines of its first parent" */
    private static void linesOfTheFirstParentAlone() {
        CulpritFinder x = new CulpritFinder();
        Dues.commitOf(x, -1, -1, 999, 1, 2, 3, 4, 5, 6, 998);
        Dues.commitOf(x, -1, -1, 10, 11, 12, 13, 14, 15, 16, 17);
        x.commit(0, 1);
        x.commit(1, 0);
        for (int line = 0; line < 8; line++) {
            Dues.due("line(2, " + line + ")", x.line(2, line), x.line(0, line));
            Dues.due("line(3, " + line + ")", x.line(3, line), 10 + line);
        }
    }

    /** "or lines 0 if it has none" */
    private static void rootHasLinesZero() {
        CulpritFinder x = Dues.rowOf(5);
        x.commit(-1, -1);
        for (int line = 0; line < 8; line++) {
            Dues.due("line(1, " + line + ")", x.line(1, line), 0);
        }
    }

    private static void linesAreCopiedAndNotShared() {
        CulpritFinder x = Dues.rowOf(5);
        x.commit(0, -1);
        x.commit(0, -1);
        x.write(1, 0, 6);
        Dues.due("line(0, 0) of the parent", x.line(0, 0), 5);
        Dues.due("line(1, 0)", x.line(1, 0), 6);
        Dues.due("line(2, 0) of its other child", x.line(2, 0), 5);
    }

    /** "(also while there is a search)" */
    private static void commitInEveryState() {
        for (Scene scene : Scene.values()) {
            CulpritFinder x = scene.make();
            boolean full = scene.commits == 14;
            Dues.due(scene + ", commit(-1, -1)", x.commit(-1, -1), full ? -1 : scene.commits);
            Dues.due(scene + ", state()", x.state(), scene.state);
            Dues.due(scene + ", weight() of it", x.weight(scene.commits), 0);
        }
    }

    private static void commitDoesNotLoseATest() {
        CulpritFinder x = Scene.HALVING_STARTED.make();
        Dues.due("commit(4, 0)", x.commit(4, 0), 5);
        Dues.due("next()", x.next(), 2);
        Dues.due("start()", x.start(), false);
        Dues.due("finish()", x.finish(), 1);
        Dues.due("suspects()", x.suspects(), 24);
    }

    /** "if there is no such commit" */
    private static void writeToFirstAndLastCommit() {
        CulpritFinder x = roots(14);
        Dues.due("write(-1, 0, 5)", x.write(-1, 0, 5), false);
        Dues.due("write(0, 0, 5)", x.write(0, 0, 5), true);
        Dues.due("write(13, 0, 6)", x.write(13, 0, 6), true);
        Dues.due("write(14, 0, 5)", x.write(14, 0, 5), false);
        Dues.due("write(32, 0, 7)", x.write(32, 0, 7), false);
        Dues.due("write(MIN, 0, 7)", x.write(MIN, 0, 7), false);
        Dues.due("write(MAX, 0, 7)", x.write(MAX, 0, 7), false);
        Dues.due("line(0, 0)", x.line(0, 0), 5);
        Dues.due("line(13, 0)", x.line(13, 0), 6);
        CulpritFinder few = roots(2);
        Dues.due("write(1, 0, 5) of 2", few.write(1, 0, 5), true);
        Dues.due("write(2, 0, 5) of 2", few.write(2, 0, 5), false);
        few.commit(-1, -1);
        Dues.due("line(2, 0), made behind it", few.line(2, 0), 0);
    }

    /** "or line" */
    private static void writeToFirstAndLastLine() {
        CulpritFinder x = roots(3);
        Dues.due("write(1, -1, 5)", x.write(1, -1, 5), false);
        Dues.due("write(1, 0, 6)", x.write(1, 0, 6), true);
        Dues.due("write(1, 7, 7)", x.write(1, 7, 7), true);
        Dues.due("write(1, 8, 5)", x.write(1, 8, 5), false);
        Dues.due("write(1, MIN, 5)", x.write(1, MIN, 5), false);
        Dues.due("write(1, MAX, 5)", x.write(1, MAX, 5), false);
        Dues.due("line(1, 0)", x.line(1, 0), 6);
        Dues.due("line(1, 7)", x.line(1, 7), 7);
        // The lines beside, of the commits before and behind, are as they were.
        Dues.due("line(0, 7)", x.line(0, 7), 0);
        Dues.due("line(2, 0)", x.line(2, 0), 0);
    }

    /** "code is not 0 .. 999" */
    private static void writeFirstAndLastCode() {
        CulpritFinder x = roots(1);
        Dues.due("write(0, 0, 999)", x.write(0, 0, 999), true);
        Dues.due("write(0, 0, 1000)", x.write(0, 0, 1000), false);
        Dues.due("write(0, 0, MAX)", x.write(0, 0, MAX), false);
        Dues.due("line(0, 0)", x.line(0, 0), 999);
        Dues.due("write(0, 0, 0)", x.write(0, 0, 0), true);
        Dues.due("write(0, 0, -1)", x.write(0, 0, -1), false);
        Dues.due("write(0, 0, MIN)", x.write(0, 0, MIN), false);
        Dues.due("line(0, 0)", x.line(0, 0), 0);
    }

    /** "(any such code may be written)": also what can't be built. */
    private static void writeAnyCode() {
        CulpritFinder x = roots(1);
        for (int code = 0; code <= 999; code++) {
            // The document promises nothing behind the 512th call of one object.
            if (code % 200 == 0) {
                x = roots(1);
            }
            Dues.due("write(0, 3, " + code + ")", x.write(0, 3, code), true);
            Dues.due("line(0, 3)", x.line(0, 3), code);
        }
    }

    /** "it is a parent of a commit" */
    private static void writeToAParent() {
        CulpritFinder x = roots(3);
        Dues.due("write(0, 0, 1) before", x.write(0, 0, 1), true);
        Dues.due("write(1, 0, 1) before", x.write(1, 0, 1), true);
        x.commit(0, 1);
        Dues.due("write to the first parent", x.write(0, 0, 2), false);
        Dues.due("write to the second parent", x.write(1, 0, 2), false);
        Dues.due("line(0, 0)", x.line(0, 0), 1);
        Dues.due("line(1, 0)", x.line(1, 0), 1);
        Dues.due("write to neither", x.write(2, 0, 2), true);
        Dues.due("write to the child", x.write(3, 0, 2), true);
        x.commit(3, -1);
        Dues.due("write to a grandparent", x.write(0, 0, 2), false);
        Dues.due("write to the child, a parent now", x.write(3, 0, 3), false);
        Dues.due("line(3, 0)", x.line(3, 0), 2);
    }

    private static void refusedCommitMakesNoParent() {
        CulpritFinder x = roots(2);
        x.commit(0, 0);
        x.commit(1, 2);
        x.commit(-1, 1);
        Dues.due("write(0, 0, 1)", x.write(0, 0, 1), true);
        Dues.due("write(1, 0, 1)", x.write(1, 0, 1), true);
    }

    /** "or there is a search" */
    private static void writeInEveryState() {
        for (Scene scene : Scene.values()) {
            CulpritFinder x = scene.make();
            int leaf = scene.commits - 1;
            int code = x.line(leaf, 0);
            Dues.due(scene + ", write", x.write(leaf, 0, 5), scene.state == 0 && leaf >= 0);
            Dues.due(scene + ", line", x.line(leaf, 0), scene.state == 0 && leaf >= 0 ? 5 : code);
            x.end();
            Dues.due(scene + ", write behind end()", x.write(leaf, 0, 6), leaf >= 0);
            Dues.due(scene + ", line behind end()", x.line(leaf, 0), leaf >= 0 ? 6 : -1);
        }
    }

    /** "-1 if there is none", by its commit */
    private static void lineOfFirstAndLastCommit() {
        CulpritFinder x = roots(14);
        x.write(0, 0, 5);
        x.write(13, 7, 6);
        Dues.due("line(0, 0)", x.line(0, 0), 5);
        Dues.due("line(13, 7)", x.line(13, 7), 6);
        for (int c : new int[] {-1, 14, 32, MIN, MAX}) {
            Dues.due("line(" + c + ", 0)", x.line(c, 0), -1);
            Dues.due("line(" + c + ", 7)", x.line(c, 7), -1);
        }
        Dues.due("line(2, 0) of 2", roots(2).line(2, 0), -1);
        Dues.due("line(1, 0) of 2", roots(2).line(1, 0), 0);
    }

    /** "-1 if there is none", by its line */
    private static void lineOutOfReach() {
        CulpritFinder x = roots(3);
        for (int line : new int[] {-1, 8, 9, MIN, MAX}) {
            Dues.due("line(0, " + line + ")", x.line(0, line), -1);
            Dues.due("line(1, " + line + ")", x.line(1, line), -1);
            Dues.due("line(2, " + line + ")", x.line(2, line), -1);
        }
        Dues.due("line(1, 0)", x.line(1, 0), 0);
        Dues.due("line(1, 7)", x.line(1, 7), 0);
    }
}
