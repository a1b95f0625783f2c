/** Promise 5: verdict, and what the terms say of operations, building and running. */
public final class VerdictTest {
    private static final int PASSES = 1;
    private static final int FAILS = 2;
    private static final int UNBUILDABLE = 3;

    public static void main(String[] args) {
        noSuchCommit();
        operations();
        wrapAround();
        blocks();
        readBeforeSet();
        steps();
        variablesBeginAnew();
        isNoTest();
        Dues.finishTests();
    }

    private static void judge(int want, int input, int... codes) {
        CulpritFinder x = new CulpritFinder();
        int c = Dues.commitOf(x, -1, -1, codes);
        StringBuilder call = new StringBuilder("verdict with " + input + " of");
        for (int code : codes) {
            call.append(' ').append(code);
        }
        Dues.due(call.toString(), x.verdict(c, input), want);
        Dues.due(call.append(", again").toString(), x.verdict(c, input), want);
    }

    private static void noSuchCommit() {
        CulpritFinder x = Dues.rowOf(0);
        Dues.due("verdict(0, 0)", x.verdict(0, 0), PASSES);
        Dues.due("verdict(1, 0)", x.verdict(1, 0), 0);
        Dues.due("verdict(-1, 0)", x.verdict(-1, 0), 0);
        Dues.due("verdict(14, 0)", x.verdict(14, 0), 0);
        Dues.due("verdict(MIN, 0)", x.verdict(Integer.MIN_VALUE, 0), 0);
    }

    private static void operations() {
        judge(PASSES, 4, 99, 18, 704);
        judge(PASSES, 4, 132, 732, 704);
        judge(FAILS, 4, 132, 733);
        judge(PASSES, 4, 132, 203, 706, 732);
        judge(PASSES, 4, 200, 708);
        judge(PASSES, 4, 300, 703);
        judge(PASSES, 0, 300, 700);
        judge(PASSES, 4, 830, 734, 704);
        judge(PASSES, 4, 118, 801, 708, 718);
        judge(PASSES, 4, 105, 705);
        judge(FAILS, 5, 704);
        judge(UNBUILDABLE, 0, 0, 0, 0, 0, 0, 0, 0, 900);
        judge(UNBUILDABLE, 0, 999);
        judge(UNBUILDABLE, 0, 701, 950);
    }

    private static void wrapAround() {
        judge(PASSES, Integer.MIN_VALUE, 200, 700);
        judge(PASSES, Integer.MAX_VALUE, 200, 112, 201, 700);
        // A negative variable does not drop, and is not 0.
        judge(PASSES, -1, 300, 111, 201, 700);
        judge(FAILS, -1, 500, 701, 600);
        judge(PASSES, Integer.MIN_VALUE, 300, 200, 700);
    }

    private static void blocks() {
        judge(PASSES, 0, 500, 709, 600);
        judge(FAILS, 1, 500, 709, 600);
        judge(PASSES, 1, 500, 300, 600, 700);
        judge(PASSES, 5, 110, 121, 400, 212, 300, 600, 715, 700);
        // An inner block belongs with the first END, whether it is the same kind or not.
        judge(PASSES, 3, 400, 500, 300, 600, 600, 700);
        judge(PASSES, 0, 400, 500, 600, 709, 600, 700);
        judge(FAILS, 0, 500, 500, 600, 600, 709);
        judge(PASSES, 2, 400, 300, 600, 500, 709, 600);
        judge(PASSES, 0, 0, 0, 0, 0, 0, 0, 500, 600);
        judge(UNBUILDABLE, 0, 400);
        judge(UNBUILDABLE, 0, 500);
        judge(UNBUILDABLE, 0, 600);
        judge(UNBUILDABLE, 0, 600, 500);
        judge(UNBUILDABLE, 0, 400, 500, 600);
        judge(UNBUILDABLE, 0, 400, 600, 600);
        judge(UNBUILDABLE, 0, 0, 0, 0, 0, 0, 0, 0, 400);
        judge(UNBUILDABLE, 0, 400, 400, 400, 400, 400, 400, 400, 400);
        judge(UNBUILDABLE, 0, 600, 600, 600, 600, 600, 600, 600, 600);
        judge(PASSES, 0, 400, 400, 400, 400, 600, 600, 600, 600);
    }

    private static void readBeforeSet() {
        judge(UNBUILDABLE, 0, 201);
        judge(UNBUILDABLE, 0, 210);
        judge(UNBUILDABLE, 0, 111, 221);
        judge(UNBUILDABLE, 0, 111, 212);
        judge(UNBUILDABLE, 0, 310);
        judge(UNBUILDABLE, 0, 410, 600);
        judge(UNBUILDABLE, 0, 510, 600);
        judge(UNBUILDABLE, 0, 710);
        judge(UNBUILDABLE, 0, 801);
        judge(UNBUILDABLE, 0, 811);
        judge(UNBUILDABLE, 0, 710, 110);
        judge(UNBUILDABLE, 0, 0, 0, 0, 0, 0, 0, 791, 190);
        // An unread digit is no variable, and setting needs none before it.
        judge(PASSES, 0, 19, 409, 669, 309, 509, 600);
        judge(FAILS, 0, 709);
        judge(PASSES, 0, 810, 710);
        // A line that sets counts wherever it stands, also where the run passes it over.
        judge(PASSES, 0, 500, 115, 600, 710);
        judge(FAILS, 1, 500, 115, 600, 710);
        // A line makes it unbuildable also if no run would get there.
        judge(UNBUILDABLE, 0, 500, 710, 600);
        judge(UNBUILDABLE, 0, 709, 710);
    }

    private static void steps() {
        judge(FAILS, 1, 400, 600);
        judge(PASSES, 0, 400, 600);
        judge(FAILS, -1, 400, 300, 600);
        // A run takes 3 steps a round, 1 for the last WHILE and 1 for each of the 5 lines behind: 81 with 25 rounds.
        judge(PASSES, 24, 400, 300, 600);
        judge(FAILS, 25, 400, 300, 600);
        // With one line less behind the END it is 80 steps, the last of them in line 7.
        judge(PASSES, 25, 400, 300, 600, 500, 600);
        judge(PASSES, 18, 400, 300, 0, 600);
        judge(PASSES, 15, 400, 300, 0, 0, 600);
        judge(PASSES, 19, 400, 300, 0, 600, 500, 0, 0, 600);
        judge(FAILS, 20, 400, 300, 0, 600, 500, 0, 0, 600);
        // An IF's END is a step.
        judge(PASSES, 15, 400, 500, 300, 600, 600);
        judge(FAILS, 16, 400, 500, 300, 600, 600);
        // The same 80 steps, of which the last is a check.
        judge(PASSES, 25, 400, 300, 600, 500, 600, 0, 0, 700);
        judge(FAILS, 25, 400, 300, 600, 500, 600, 0, 0, 701);
    }

    private static void variablesBeginAnew() {
        CulpritFinder x = new CulpritFinder();
        Dues.commitOf(x, -1, -1, 500, 115, 600, 710);
        Dues.due("verdict(0, 1)", x.verdict(0, 1), FAILS);
        Dues.due("verdict(0, 0) behind it", x.verdict(0, 0), PASSES);
    }

    private static void isNoTest() {
        CulpritFinder x = Dues.rowOf(Dues.PASSING, Dues.FAILING);
        x.begin(0, 1, 0);
        Dues.due("verdict(1, 1)", x.verdict(1, 1), PASSES);
        Dues.due("verdict(1, 0)", x.verdict(1, 0), FAILS);
        Dues.due("next()", x.next(), 1);
        Dues.due("journal()", x.journal(), 0);
        Dues.due("started()", x.started(), 0);
        x.start();
        x.verdict(0, 5);
        Dues.due("finish() with a verdict between", x.finish(), FAILS);
    }
}
