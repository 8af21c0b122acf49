import java.io.IOException;
import java.nio.file.Files;
import java.nio.file.Path;

/** The example in README.md: its calls stand there, in this order, and answer what it says. */
public final class ReadmeTest {
    private static String rest = "";
    private static int wrong = 0;

    private ReadmeTest() {
    }

    public static void main(String[] args) throws IOException {
        rest = Files.readString(Path.of("README.md"));
        example();
        System.out.println(wrong == 0 ? "the example is as told" : wrong + " lines of the example are not as told");
        if (wrong != 0) {
            System.exit(1);
        }
    }

    private static void example() {
        PackExchange x = new PackExchange();
        int blob = x.blob(1, 42);
        due("int blob = x.blob(1, 42);", "0:", blob, 0);
        int tree = x.tree(1, blob, -1);
        due("int tree = x.tree(1, blob, -1);", "1:", tree, 1);
        int first = x.commit(1, 0, tree, -1);
        due("int first = x.commit(1, 0, tree, -1);", "2:", first, 2);
        due("x.push(1, 1);", "1:", x.push(1, 1), 1);
        due("x.fetch(2, 1);", "3:", x.fetch(2, 1), 3);
        due("x.packAt(0);", "2:", x.packAt(0), 2);
        due("x.reference(2, 4);", "2:", x.reference(2, 4), 2);
        due("x.reference(2, 0);", "NONE:", x.reference(2, 0), PackExchange.NONE);
        due("x.arm(0, 2);", "true:", x.arm(0, 2) ? 1 : 0, 1);
        due("x.point(0, 1, first);", "DOWN:", x.point(0, 1, first), PackExchange.DOWN);
        due("x.fetch(2, 2);", "DOWN:", x.fetch(2, 2), PackExchange.DOWN);
        due("x.recover(0);", "1:", x.recover(0), 1);
        due("x.reference(0, 1);", "2:", x.reference(0, 1), 2);
    }

    /** The call stands in what is left of README.md, and its line tells the answer. */
    private static void due(String call, String told, int got, int want) {
        int at = rest.indexOf(call);
        String line = at < 0 ? "" : rest.substring(at).lines().findFirst().orElse("");
        if (!line.substring(Math.min(call.length(), line.length())).strip().startsWith("// " + told)) {
            tell(call + " does not stand there in its place with the answer " + told);
        }
        if (got != want) {
            tell(call + " answered " + got + ", due is " + want);
        }
        rest = at < 0 ? rest : rest.substring(at + call.length());
    }

    private static void tell(String fault) {
        wrong++;
        System.out.println(fault);
    }
}
