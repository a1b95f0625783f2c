/** What the project's tests share: it compares answers with those that are due, and counts the wrong ones. */
final class Dues {
    static final int PASSING = 0;
    static final int FAILING = 701;
    static final int UNBUILDABLE = 900;

    private static int wrong = 0;

    private Dues() {
    }

    static void due(String call, long got, long want) {
        if (got != want) {
            wrong++;
            System.out.println(call + " answered " + got + ", due is " + want);
        }
    }

    static void due(String call, boolean got, boolean want) {
        due(call, got ? 1 : 0, want ? 1 : 0);
    }

    static void finishTests() {
        if (wrong != 0) {
            System.out.println(wrong + " answers are not as due");
            System.exit(1);
        }
    }

    /** A commit with a program of these lines, from line 0 on; the lines behind them are as its first parent's. */
    static int commitOf(CulpritFinder x, int first, int second, int... codes) {
        int c = x.commit(first, second);
        for (int line = 0; line < codes.length; line++) {
            due("write(" + c + ", " + line + ", " + codes[line] + ")", x.write(c, line, codes[line]), true);
        }
        return c;
    }

    /** A row of commits, each the parent of the one behind it, that differ in line 0 alone. */
    static CulpritFinder rowOf(int... codes) {
        CulpritFinder x = new CulpritFinder();
        for (int c = 0; c < codes.length; c++) {
            commitOf(x, c - 1, -1, codes[c]);
        }
        return x;
    }

    /** The next test is the one that is due, and so is its verdict. */
    static void test(CulpritFinder x, int test, int verdict) {
        due("next()", x.next(), test);
        due("start() of " + test, x.start(), true);
        due("next(), started", x.next(), test);
        due("finish() of " + test, x.finish(), verdict);
    }

    static void standing(CulpritFinder x, int state, int suspects, int culprit, int reduced) {
        due("state()", x.state(), state);
        due("suspects()", x.suspects(), suspects);
        due("culprit()", x.culprit(), culprit);
        due("reduced()", x.reduced(), reduced);
    }

    static void noMoreTests(CulpritFinder x) {
        due("next() at the end", x.next(), -1);
        due("start() at the end", x.start(), false);
        due("finish() at the end", x.finish(), 0);
    }
}
