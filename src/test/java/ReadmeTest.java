import java.io.IOException;
import java.lang.reflect.Method;
import java.lang.reflect.Modifier;
import java.nio.file.Files;
import java.nio.file.Path;

/** README.md: its example answers as it says there, and its table has every call. Runs in the project's folder. */
public final class ReadmeTest {
    public static void main(String[] args) throws IOException {
        example();
        tableHasEveryCall(Files.readString(Path.of("README.md")));
        Dues.finishTests();
    }

    private static void example() {
        CulpritFinder finder = new CulpritFinder();
        Dues.due("commit(-1, -1)", finder.commit(-1, -1), 0);
        Dues.due("commit(0, -1)", finder.commit(0, -1), 1);
        Dues.due("write(1, 0, 105)", finder.write(1, 0, 105), true);
        Dues.due("write(1, 1, 703)", finder.write(1, 1, 703), true);
        Dues.due("begin(0, 1, 3)", finder.begin(0, 1, 3), true);
        while (finder.start()) {
            finder.finish();
        }
        Dues.due("state()", finder.state(), 4);
        Dues.due("culprit()", finder.culprit(), 1);
        Dues.due("reduced()", finder.reduced(), 3);
        Dues.due("journal()", finder.journal(), 4);
        Dues.due("entry(0)", finder.entry(0), 12);
        Dues.due("entry(3)", finder.entry(3), 10021);
    }

    private static void tableHasEveryCall(String readme) {
        for (Method method : CulpritFinder.class.getDeclaredMethods()) {
            if (Modifier.isPublic(method.getModifiers())) {
                String row = "\n| `" + method.getName() + "(";
                Dues.due("README.md has a row for " + method.getName(), readme.contains(row), true);
            }
        }
    }
}
