/** Promises 1 to 4: a new object, commit, write, line. */
public final class CommitsTest {
    public static void main(String[] args) {
        newObject();
        commitNumbersAndRefusals();
        commitTakesLinesOfItsFirstParent();
        atMostFourteen();
        writeRefusals();
        writeAfterSearch();
        Dues.finishTests();
    }

    private static void newObject() {
        CulpritFinder x = new CulpritFinder();
        Dues.due("line(0, 0)", x.line(0, 0), -1);
        Dues.due("verdict(0, 0)", x.verdict(0, 0), 0);
        Dues.due("write(0, 0, 0)", x.write(0, 0, 0), false);
        Dues.due("begin(0, 0, 0)", x.begin(0, 0, 0), false);
        Dues.due("begin(-1, 0, 0)", x.begin(-1, 0, 0), false);
        Dues.due("end()", x.end(), false);
        Dues.due("crash()", x.crash(), false);
        Dues.due("journal()", x.journal(), 0);
        Dues.due("entry(0)", x.entry(0), -1);
        Dues.due("weight(0)", x.weight(0), 0);
        Dues.due("started()", x.started(), 0);
        Dues.standing(x, 0, 0, -1, -1);
        Dues.noMoreTests(x);
        Dues.due("commit(-1, -1)", x.commit(-1, -1), 0);
    }

    private static void commitNumbersAndRefusals() {
        CulpritFinder x = new CulpritFinder();
        Dues.due("commit(0, -1)", x.commit(0, -1), -1);
        Dues.due("commit(-1, 0)", x.commit(-1, 0), -1);
        Dues.due("commit(-1, -1)", x.commit(-1, -1), 0);
        Dues.due("commit(-1, 0)", x.commit(-1, 0), -1);
        Dues.due("commit(0, 0)", x.commit(0, 0), -1);
        Dues.due("commit(1, -1)", x.commit(1, -1), -1);
        Dues.due("commit(0, 1)", x.commit(0, 1), -1);
        Dues.due("commit(0, -2)", x.commit(0, -2), -1);
        Dues.due("commit(-2, -1)", x.commit(-2, -1), -1);
        Dues.due("commit(MIN, MAX)", x.commit(Integer.MIN_VALUE, Integer.MAX_VALUE), -1);
        Dues.due("write after refused commits", x.write(0, 0, 7), true);
        Dues.due("a second root", x.commit(-1, -1), 1);
        Dues.due("commit(1, 0)", x.commit(1, 0), 2);
        Dues.due("begin(0, 2, 0)", x.begin(0, 2, 0), true);
        Dues.due("commit while there is a search", x.commit(2, -1), 3);
        Dues.due("state()", x.state(), 1);
        Dues.due("next()", x.next(), 2);
    }

    private static void commitTakesLinesOfItsFirstParent() {
        CulpritFinder x = new CulpritFinder();
        Dues.commitOf(x, -1, -1, 1, 2, 3, 4, 5, 6, 7, 8);
        Dues.commitOf(x, -1, -1, 11, 12, 13, 14, 15, 16, 17, 18);
        x.commit(1, 0);
        x.commit(-1, -1);
        for (int line = 0; line < 8; line++) {
            Dues.due("line of the merge", x.line(2, line), 11 + line);
            Dues.due("line of a root", x.line(3, line), 0);
        }
        Dues.due("write(2, 3, 99)", x.write(2, 3, 99), true);
        Dues.due("the parent's line stays", x.line(1, 3), 14);
        Dues.due("line(2, 3)", x.line(2, 3), 99);
        Dues.due("line(2, 8)", x.line(2, 8), -1);
        Dues.due("line(2, -1)", x.line(2, -1), -1);
        Dues.due("line(4, 0)", x.line(4, 0), -1);
        Dues.due("line(-1, 0)", x.line(-1, 0), -1);
        Dues.due("line(MAX, MAX)", x.line(Integer.MAX_VALUE, Integer.MAX_VALUE), -1);
        Dues.due("line(MIN, MIN)", x.line(Integer.MIN_VALUE, Integer.MIN_VALUE), -1);
    }

    private static void atMostFourteen() {
        CulpritFinder x = new CulpritFinder();
        for (int c = 0; c < 14; c++) {
            Dues.due("commit(" + (c - 1) + ", -1)", x.commit(c - 1, -1), c);
        }
        Dues.due("a fifteenth commit", x.commit(13, -1), -1);
        Dues.due("a fifteenth root", x.commit(-1, -1), -1);
        Dues.due("write(13, 7, 999)", x.write(13, 7, 999), true);
        Dues.due("line(13, 7)", x.line(13, 7), 999);
        Dues.due("line(14, 0)", x.line(14, 0), -1);
    }

    private static void writeRefusals() {
        CulpritFinder x = new CulpritFinder();
        x.commit(-1, -1);
        x.commit(-1, -1);
        x.commit(0, 1);
        Dues.due("write to a first parent", x.write(0, 0, 1), false);
        Dues.due("write to a second parent", x.write(1, 0, 1), false);
        Dues.due("line(0, 0)", x.line(0, 0), 0);
        Dues.due("line(1, 0)", x.line(1, 0), 0);
        Dues.due("write(2, 0, -1)", x.write(2, 0, -1), false);
        Dues.due("write(2, 0, 1000)", x.write(2, 0, 1000), false);
        Dues.due("write(2, -1, 0)", x.write(2, -1, 0), false);
        Dues.due("write(2, 8, 0)", x.write(2, 8, 0), false);
        Dues.due("write(3, 0, 0)", x.write(3, 0, 0), false);
        Dues.due("write(-1, 0, 0)", x.write(-1, 0, 0), false);
        Dues.due("write(MAX, 0, 0)", x.write(Integer.MAX_VALUE, 0, 0), false);
        Dues.due("write(2, 0, 999)", x.write(2, 0, 999), true);
        Dues.due("write(2, 0, 0)", x.write(2, 0, 0), true);
    }

    private static void writeAfterSearch() {
        CulpritFinder x = Dues.rowOf(0, 0);
        x.begin(0, 1, 0);
        Dues.due("write while there is a search", x.write(1, 0, 5), false);
        Dues.due("line(1, 0)", x.line(1, 0), 0);
        Dues.test(x, 1, 1);
        Dues.due("state()", x.state(), 6);
        Dues.due("write in a refused search", x.write(1, 0, 5), false);
        x.end();
        Dues.due("write behind a search", x.write(1, 0, 5), true);
        Dues.due("line(1, 0)", x.line(1, 0), 5);
    }
}
