import java.util.ArrayList;
import java.util.List;
import java.util.function.Predicate;
import java.util.function.ToIntFunction;

/** "A call that is refused changes nothing.": each such call, wherever an object can stand, beside one without it. */
public final class RefusedCallsTest {
    private static final int MIN = Integer.MIN_VALUE;
    private static final int MAX = Integer.MAX_VALUE;

    /** A call with what it answers where it is refused, or where there is nothing to answer. */
    private record Refusal(String name, int answer, ToIntFunction<CulpritFinder> call) {
    }

    private final Scene scene;
    private final int commits;
    private final int last;
    private final List<Refusal> refusals = new ArrayList<>();

    private RefusedCallsTest(Scene scene) {
        this.scene = scene;
        commits = scene.commits;
        last = scene.commits - 1;
    }

    public static void main(String[] args) {
        for (Scene scene : Scene.values()) {
            standsAsSaid(scene);
            new RefusedCallsTest(scene).refuseAll();
        }
        Dues.finishTests();
    }

    /** The scenes are worth nothing if they are not where their names say. */
    private static void standsAsSaid(Scene scene) {
        CulpritFinder x = scene.make();
        Dues.due(scene + ", state()", x.state(), scene.state);
        Dues.due(scene + ", next() is a test", x.next() != -1, scene.hasTestsLeft());
        Dues.due(scene + ", the last commit", scene.commits == 0 || x.line(scene.commits - 1, 0) != -1, true);
        Dues.due(scene + ", no commit behind it", x.line(scene.commits, 0), -1);
        Dues.due(scene + ", started", x.finish() != 0, scene.isStarted());
    }

    private void refuseAll() {
        wrongCommits();
        commitsBeyondFourteen();
        writesOutOfReach();
        writesToParentsAndInSearches();
        wrongBegins();
        callsOfTheSearch();
        questionsWithoutAnswer();
        CulpritFinder all = scene.make();
        for (Refusal refusal : refusals) {
            CulpritFinder x = scene.make();
            refuse(refusal, x);
            scene.same(refusal.name, x, scene.make());
            refuse(refusal, all);
        }
        scene.same("all of them in a row", all, scene.make());
    }

    private void refuse(Refusal refusal, CulpritFinder x) {
        Dues.due(scene + ", " + refusal.name, refusal.call.applyAsInt(x), refusal.answer);
    }

    private void answers(String name, int answer, ToIntFunction<CulpritFinder> call) {
        refusals.add(new Refusal(name, answer, call));
    }

    private void isFalse(String name, Predicate<CulpritFinder> call) {
        answers(name, 0, x -> call.test(x) ? 1 : 0);
    }

    private void commit(int first, int second) {
        answers("commit(" + first + ", " + second + ")", -1, x -> x.commit(first, second));
    }

    private void write(int c, int line, int code) {
        isFalse("write(" + c + ", " + line + ", " + code + ")", x -> x.write(c, line, code));
    }

    private void begin(int good, int bad) {
        isFalse("begin(" + good + ", " + bad + ", 1)", x -> x.begin(good, bad, 1));
    }

    private void wrongCommits() {
        for (int wrong : new int[] {-2, commits, MIN, MAX}) {
            commit(wrong, -1);
            commit(wrong, 0);
            commit(-1, wrong);
            commit(wrong, wrong);
            commit(0, wrong);
        }
        commit(-1, 0);
        commit(-1, last == -1 ? 1 : last);
        commit(0, 0);
        commit(last == -1 ? 1 : last, last == -1 ? 1 : last);
    }

    private void commitsBeyondFourteen() {
        if (commits == 14) {
            commit(-1, -1);
            commit(0, -1);
            commit(13, -1);
            commit(0, 13);
        }
    }

    private void writesOutOfReach() {
        for (int wrong : new int[] {-1, commits, 14, 32, MIN, MAX}) {
            write(wrong, 0, 5);
        }
        for (int wrong : new int[] {-1, 8, MIN, MAX}) {
            write(last, wrong, 5);
        }
        for (int wrong : new int[] {-1, 1000, MIN, MAX}) {
            write(last, 0, wrong);
            write(last, 7, wrong);
        }
    }

    private void writesToParentsAndInSearches() {
        if (commits >= 2) {
            write(0, 0, 5);
            write(0, 7, 701);
        }
        if (scene.state != 0) {
            write(last, 0, 5);
            write(last, 7, 701);
        }
    }

    private void wrongBegins() {
        for (int wrong : new int[] {-1, commits, 32, MIN, MAX}) {
            begin(wrong, last);
            begin(0, wrong);
            begin(wrong, wrong);
        }
        begin(0, 0);
        begin(last, last);
        begin(last, 0);
    }

    private void callsOfTheSearch() {
        if (scene.state == 0) {
            isFalse("end()", CulpritFinder::end);
            isFalse("crash()", CulpritFinder::crash);
        }
        if (scene.isStarted() || !scene.hasTestsLeft()) {
            isFalse("start()", CulpritFinder::start);
        }
        if (!scene.isStarted()) {
            answers("finish()", 0, CulpritFinder::finish);
        }
    }

    private void questionsWithoutAnswer() {
        for (int wrong : new int[] {-1, commits, 14, 32, MIN, MAX}) {
            answers("line(" + wrong + ", 0)", -1, x -> x.line(wrong, 0));
            answers("verdict(" + wrong + ", 0)", 0, x -> x.verdict(wrong, 0));
            answers("weight(" + wrong + ")", 0, x -> x.weight(wrong));
        }
        for (int wrong : new int[] {-1, 8, MIN, MAX}) {
            answers("line(0, " + wrong + ")", -1, x -> x.line(0, wrong));
        }
        answers("entry(-1)", -1, x -> x.entry(-1));
        answers("entry(journal())", -1, x -> x.entry(x.journal()));
        answers("entry(MIN)", -1, x -> x.entry(MIN));
        answers("entry(MAX)", -1, x -> x.entry(MAX));
    }
}
