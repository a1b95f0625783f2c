/** Promise 5 and what the terms say of programs: each edge at the last value allowed and the first that is not. */
public final class ProgramEdgesTest {
    private static final int MIN = Integer.MIN_VALUE;
    private static final int MAX = Integer.MAX_VALUE;
    private static final int PASSES = 1;
    private static final int FAILS = 2;
    private static final int UNBUILDABLE = 3;

    public static void main(String[] args) {
        firstAndLastCodeOfEachOperation();
        operationNineInAnyLine();
        whileOrIfWithoutEnd();
        endWithoutWhileOrIf();
        blocksInBlocks();
        readInTheLineBehindOneThatSets();
        readInALineBeforeOneThatSets();
        whatOneLineReadsAndSets();
        addDropAndCheckDoNotSet();
        lineThatSetsCountsWhereverItStands();
        variableZeroIsReadAnywhere();
        otherVariablesAreZero();
        addWrapsUpwards();
        addWrapsDownwards();
        doublingWrapsToZero();
        dropStopsAtZero();
        whileAndIfGoByZeroAlone();
        checkFailsOnBothSides();
        lastLineIsDone();
        eightiethStepOfEachOperation();
        eightiethStepOfAnIfAndItsEnd();
        eightiethStepOfAWhilePassedOver();
        eightiethStepGoesBehindLineSeven();
        eightiethStepIsACheck();
        runsWithoutEnd();
        unbuildableWhateverTheRunWouldDo();
        verdictOfNoCommit();
        verdictWithAnyInput();
        verdictOfTheProgramAsItIs();
        verdictIsNoTest();
        Dues.finishTests();
    }

    private static void judge(int want, int input, int... codes) {
        CulpritFinder x = new CulpritFinder();
        int c = Dues.commitOf(x, -1, -1, codes);
        StringBuilder call = new StringBuilder("verdict with " + input + " of");
        for (int code : codes) {
            call.append(' ').append(code);
        }
        Dues.due(call.toString(), x.verdict(c, input), want);
    }

    /** A program of lines 0 but for one. */
    private static int[] alone(int line, int code) {
        int[] codes = new int[8];
        codes[line] = code;
        return codes;
    }

    /** "each a number 0 .. 999, read as three digits o a b" */
    private static void firstAndLastCodeOfEachOperation() {
        judge(PASSES, 3, 0, 703);
        judge(PASSES, 3, 99, 703);
        judge(FAILS, 3, 100, 703);
        judge(PASSES, 3, 100, 700);
        judge(PASSES, 3, 199, 799);
        judge(PASSES, 3, 200, 706);
        judge(PASSES, 3, 194, 299, 798);
        judge(PASSES, 3, 300, 702);
        judge(PASSES, 3, 194, 399, 793);
        judge(PASSES, 3, 400, 300, 600, 700);
        judge(PASSES, 3, 194, 499, 390, 600, 790);
        judge(FAILS, 3, 500, 702, 600);
        judge(FAILS, 3, 194, 599, 793, 600);
        judge(PASSES, 3, 500, 600, 703);
        judge(PASSES, 3, 500, 699, 703);
        judge(FAILS, 3, 700);
        judge(PASSES, 9, 890, 799);
        judge(FAILS, 8, 890, 799);
        judge(PASSES, 3, 800, 703);
        judge(PASSES, 3, 194, 899, 794);
        judge(UNBUILDABLE, 3, 900);
        judge(UNBUILDABLE, 3, 999);
    }

    /** "unbuildable if a line has no operation" */
    private static void operationNineInAnyLine() {
        for (int line = 0; line < 8; line++) {
            judge(PASSES, 0, alone(line, 890));
            judge(UNBUILDABLE, 0, alone(line, 900));
        }
    }

    /** "a WHILE or IF has no END" */
    private static void whileOrIfWithoutEnd() {
        for (int line = 0; line < 8; line++) {
            judge(UNBUILDABLE, 0, alone(line, 400));
            judge(UNBUILDABLE, 0, alone(line, 500));
        }
        for (int line = 0; line < 7; line++) {
            int[] codes = alone(line, 400);
            codes[7] = 600;
            judge(PASSES, 0, codes);
            codes[line] = 500;
            judge(PASSES, 0, codes);
        }
    }

    /** "or an END none of them" */
    private static void endWithoutWhileOrIf() {
        for (int line = 0; line < 8; line++) {
            judge(UNBUILDABLE, 0, alone(line, 600));
        }
        // An END before them is not theirs, though there are as many.
        judge(UNBUILDABLE, 0, 600, 500);
        judge(UNBUILDABLE, 0, 600, 400, 600);
        judge(UNBUILDABLE, 0, 500, 600, 600, 500);
    }

    /** "A WHILE or IF belongs with an END behind it, those between them being paired among themselves." */
    private static void blocksInBlocks() {
        judge(PASSES, 0, 500, 500, 500, 500, 600, 600, 600, 600);
        judge(UNBUILDABLE, 0, 500, 500, 500, 500, 500, 600, 600, 600);
        judge(UNBUILDABLE, 0, 500, 500, 500, 600, 600, 600, 600, 0);
        judge(UNBUILDABLE, 0, 500, 500, 500, 500, 500, 500, 500, 500);
        judge(UNBUILDABLE, 0, 600, 600, 600, 600, 600, 600, 600, 600);
        judge(PASSES, 0, 500, 600, 500, 600, 500, 600, 500, 600);
        // The outer IF goes on behind the last END, and so not to the check; the inner one to it.
        judge(PASSES, 0, 500, 400, 600, 709, 600);
        judge(FAILS, 0, 500, 400, 600, 600, 709);
        judge(FAILS, 1, 110, 500, 510, 600, 709, 600);
        // The END of an inner IF does not go back to the WHILE round it.
        judge(FAILS, 1, 400, 500, 600, 709, 600);
        judge(PASSES, 1, 400, 500, 600, 300, 600);
    }

    /** "in a line before which no line sets it": the nearest line before is enough, and sets it by 1 or by 8. */
    private static void readInTheLineBehindOneThatSets() {
        for (int v = 1; v <= 9; v++) {
            int set = 100 + 10 * v;
            int copied = 800 + 10 * v;
            for (int setting : new int[] {set, copied}) {
                judge(PASSES, 0, setting, 200 + v);
                judge(PASSES, 0, setting, 200 + 10 * v);
                judge(PASSES, 0, setting, 300 + 10 * v);
                judge(PASSES, 0, setting, 400 + 10 * v, 600);
                judge(PASSES, 0, setting, 500 + 10 * v, 600);
                judge(PASSES, 0, setting, 700 + 10 * v);
                judge(PASSES, 0, setting, 800 + v);
                judge(PASSES, 0, 0, 0, 0, 0, 0, 0, setting, 700 + 10 * v);
            }
        }
    }

    /** A variable that is set in a later line is read too early. */
    private static void readInALineBeforeOneThatSets() {
        for (int v = 1; v <= 9; v++) {
            int set = 100 + 10 * v;
            judge(UNBUILDABLE, 0, 200 + v, set);
            judge(UNBUILDABLE, 0, 200 + 10 * v, set);
            judge(UNBUILDABLE, 0, 300 + 10 * v, set);
            judge(UNBUILDABLE, 0, 400 + 10 * v, set, 600);
            judge(UNBUILDABLE, 0, 500 + 10 * v, set, 600);
            judge(UNBUILDABLE, 0, 700 + 10 * v, set);
            judge(UNBUILDABLE, 0, 800 + v, set);
            judge(UNBUILDABLE, 0, 0, 0, 0, 0, 0, 0, 700 + 10 * v, set);
        }
    }

    /** "a variable is read (2: a and b; 3, 4, 5, 7: a; 8: b) .. sets it (1, 8: a)": the other digits are free. */
    private static void whatOneLineReadsAndSets() {
        judge(UNBUILDABLE, 0, 811);
        judge(UNBUILDABLE, 0, 111, 812);
        judge(PASSES, 0, 111, 821, 721);
        judge(UNBUILDABLE, 0, 111, 212);
        judge(UNBUILDABLE, 0, 111, 221);
        judge(PASSES, 0, 111, 211, 712);
        judge(PASSES, 0, 19, 91, 99);
        judge(PASSES, 0, 309, 409, 619, 509, 691);
        judge(PASSES, 9, 709);
        // The number that SET takes is no variable.
        judge(UNBUILDABLE, 0, 112, 720);
    }

    private static void addDropAndCheckDoNotSet() {
        judge(UNBUILDABLE, 0, 210, 710);
        judge(UNBUILDABLE, 0, 310, 710);
        judge(UNBUILDABLE, 0, 710, 710);
        judge(UNBUILDABLE, 0, 11, 710);
    }

    /** "(wherever it stands)": also in a block that the run passes over. */
    private static void lineThatSetsCountsWhereverItStands() {
        judge(PASSES, 0, 500, 115, 600, 710);
        judge(PASSES, 0, 400, 810, 600, 710);
        judge(PASSES, 0, 500, 400, 115, 600, 600, 710);
    }

    /** "variable 0 aside" */
    private static void variableZeroIsReadAnywhere() {
        judge(PASSES, 5, 705);
        judge(PASSES, 5, 200);
        judge(PASSES, 5, 300);
        judge(PASSES, 5, 500, 600);
        judge(PASSES, 5, 800);
        judge(PASSES, 5, 810, 715);
        judge(UNBUILDABLE, 5, 715);
    }

    /** "variable 0 is the input, the others are 0", in each run anew. */
    private static void otherVariablesAreZero() {
        for (int v = 1; v <= 9; v++) {
            CulpritFinder x = new CulpritFinder();
            Dues.commitOf(x, -1, -1, 500, 105 + 10 * v, 600, 700 + 10 * v);
            Dues.due("verdict with 1", x.verdict(0, 1), FAILS);
            Dues.due("verdict with 0 behind it", x.verdict(0, 0), PASSES);
        }
    }

    /** "Variables wrap as ints." */
    private static void addWrapsUpwards() {
        // MAX + 1 is MIN, and twice that is 0; MAX + 0 is not wrapped.
        judge(PASSES, MAX, 111, 201, 200, 700);
        judge(FAILS, MAX, 110, 201, 200, 700);
        // MAX + 1 is less than 0, so that it does not drop.
        judge(PASSES, MAX, 111, 201, 300, 200, 700);
        // Twice MAX is -2.
        judge(PASSES, MAX, 200, 112, 201, 700);
        judge(FAILS, MAX, 200, 111, 201, 700);
    }

    private static void addWrapsDownwards() {
        judge(PASSES, MIN, 200, 700);
        judge(PASSES, MIN + 1, 200, 702);
        judge(PASSES, MIN + 4, 200, 708);
        judge(PASSES, -1, 111, 201, 700);
    }

    private static void doublingWrapsToZero() {
        // 3 doublings a round: 2 to the 30th, then past the 32nd.
        judge(FAILS, 10, 111, 400, 211, 211, 211, 300, 600, 710);
        judge(PASSES, 11, 111, 400, 211, 211, 211, 300, 600, 710);
    }

    /** "becomes less by 1 if it is more than 0" */
    private static void dropStopsAtZero() {
        judge(PASSES, 2, 300, 701);
        judge(PASSES, 1, 300, 700);
        judge(PASSES, 0, 300, 700);
        judge(PASSES, -1, 300, 111, 201, 700);
        judge(PASSES, MIN, 300, 200, 700);
    }

    /** "a WHILE or IF whose variable is 0 goes on behind its END" */
    private static void whileAndIfGoByZeroAlone() {
        for (int operation : new int[] {400, 500}) {
            judge(PASSES, 0, operation, 709, 600);
            judge(FAILS, 1, operation, 709, 600);
            judge(FAILS, -1, operation, 709, 600);
            judge(FAILS, MIN, operation, 709, 600);
            judge(FAILS, MAX, operation, 709, 600);
            judge(FAILS, 0, operation, 709, 600, 709);
        }
    }

    /** "CHECK: fails if variable a is not b" */
    private static void checkFailsOnBothSides() {
        for (int b = 0; b <= 9; b++) {
            judge(PASSES, b, 700 + b);
            judge(FAILS, b - 1, 700 + b);
            judge(FAILS, b + 1, 700 + b);
        }
        judge(FAILS, 10, 700);
        judge(FAILS, MIN, 700);
        // The run ends there: a second time the check would pass.
        judge(FAILS, 2, 111, 201, 704);
    }

    /** "it PASSES behind line 7" */
    private static void lastLineIsDone() {
        judge(PASSES, 0, 0, 0, 0, 0, 0, 0, 0, 700);
        judge(FAILS, 0, 0, 0, 0, 0, 0, 0, 0, 701);
        judge(PASSES, 0, 0, 0, 0, 0, 0, 0, 500, 600);
        judge(PASSES, 1, 0, 0, 0, 0, 0, 0, 500, 600);
    }

    /** "Each line that is done, of whatever operation, counts as a step": each operation in 19 rounds of 4 steps. */
    private static void eightiethStepOfEachOperation() {
        for (int code : new int[] {0, 110, 211, 310, 710, 811}) {
            judge(PASSES, 19, 110, 400, 300, code, 600, 500, 600, 0);
            judge(FAILS, 19, 110, 400, 300, code, 600, 0, 0, 0);
        }
    }

    /** "also an END": 13 rounds of 6 steps. */
    private static void eightiethStepOfAnIfAndItsEnd() {
        judge(PASSES, 13, 400, 500, 0, 300, 600, 600, 500, 600);
        judge(FAILS, 13, 400, 500, 0, 300, 600, 600, 0, 0);
    }

    private static void eightiethStepOfAWhilePassedOver() {
        // 1 for the SET, 4 a round, 1 for the last WHILE, 2 for the lines behind.
        for (int operation : new int[] {410, 510}) {
            judge(PASSES, 19, 110, 400, 300, operation, 600, 600, 0, 0);
            judge(FAILS, 20, 110, 400, 300, operation, 600, 600, 0, 0);
        }
    }

    private static void eightiethStepGoesBehindLineSeven() {
        judge(PASSES, 19, 110, 0, 510, 600, 400, 300, 0, 600);
        judge(FAILS, 19, 110, 0, 0, 0, 400, 300, 0, 600);
    }

    /** "It FAILS at a CHECK that fails, or if an 81st step would be done" */
    private static void eightiethStepIsACheck() {
        judge(PASSES, 25, 400, 300, 600, 500, 600, 0, 0, 700);
        judge(FAILS, 25, 400, 300, 600, 500, 600, 0, 0, 701);
        judge(FAILS, 25, 400, 300, 600, 0, 0, 0, 0, 700);
        judge(FAILS, 25, 400, 300, 600, 0, 0, 0, 0, 701);
    }

    private static void runsWithoutEnd() {
        judge(FAILS, 1, 400, 600);
        judge(FAILS, -1, 400, 300, 600);
        judge(FAILS, MIN, 400, 300, 600);
        judge(FAILS, MAX, 400, 300, 600);
        judge(FAILS, 5, 400, 400, 600, 600);
    }

    private static void unbuildableWhateverTheRunWouldDo() {
        judge(UNBUILDABLE, 0, 701, 0, 0, 0, 0, 0, 0, 900);
        judge(UNBUILDABLE, 0, 701, 0, 0, 0, 0, 0, 0, 600);
        judge(UNBUILDABLE, 0, 701, 0, 0, 0, 0, 0, 0, 710);
        judge(UNBUILDABLE, 1, 400, 600, 0, 0, 0, 0, 0, 900);
        judge(UNBUILDABLE, 0, 500, 900, 600);
        judge(UNBUILDABLE, 0, 500, 710, 600);
    }

    /** "0 if there is no such commit" */
    private static void verdictOfNoCommit() {
        CulpritFinder x = new CulpritFinder();
        Dues.due("verdict(0, 0) of a new object", x.verdict(0, 0), 0);
        for (int c = 0; c < 14; c++) {
            Dues.due("verdict(" + c + ", 0) before it", x.verdict(c, 0), 0);
            x.commit(-1, -1);
            Dues.due("verdict(" + c + ", 0)", x.verdict(c, 0), PASSES);
        }
        for (int c : new int[] {-1, 14, 15, 32, -32, MIN, MAX}) {
            Dues.due("verdict(" + c + ", 0)", x.verdict(c, 0), 0);
        }
    }

    /** "with any input" */
    private static void verdictWithAnyInput() {
        CulpritFinder x = Dues.rowOf(702);
        for (int input : new int[] {MIN, MIN + 1, -2, -1, 0, 1, 3, MAX - 1, MAX}) {
            Dues.due("verdict(0, " + input + ")", x.verdict(0, input), FAILS);
        }
        Dues.due("verdict(0, 2)", x.verdict(0, 2), PASSES);
    }

    /** "The verdict of commit c's program as it is": with the last that was written, and not its child's. */
    private static void verdictOfTheProgramAsItIs() {
        CulpritFinder x = Dues.rowOf(Dues.FAILING);
        Dues.due("verdict(0, 0)", x.verdict(0, 0), FAILS);
        x.write(0, 0, Dues.UNBUILDABLE);
        Dues.due("verdict(0, 0), written", x.verdict(0, 0), UNBUILDABLE);
        x.write(0, 0, Dues.PASSING);
        Dues.due("verdict(0, 0), written again", x.verdict(0, 0), PASSES);
        x.commit(0, -1);
        x.write(1, 7, Dues.FAILING);
        Dues.due("verdict(0, 0) of the parent", x.verdict(0, 0), PASSES);
        Dues.due("verdict(1, 0) of the child", x.verdict(1, 0), FAILS);
    }

    /** "(This is no test, and changes no search.)" */
    private static void verdictIsNoTest() {
        for (Scene scene : Scene.values()) {
            CulpritFinder x = scene.make();
            CulpritFinder twin = scene.make();
            for (int c = -1; c <= scene.commits; c++) {
                x.verdict(c, 0);
                x.verdict(c, 7);
            }
            scene.same("verdict", x, twin);
        }
    }
}
