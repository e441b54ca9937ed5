import java.io.IOException;
import java.lang.reflect.Method;
import java.lang.reflect.Modifier;
import java.nio.file.Files;
import java.nio.file.Path;
import java.util.ArrayList;
import java.util.List;

/** README.md names every call of the face, and its example answers what it says there. */
public final class ReadmeTest {
    private static final Path README = Path.of("README.md");
    private static final Path HERE = Path.of("src/test/java/ReadmeTest.java");

    private static int wrong = 0;

    public static void main(String[] args) throws IOException {
        namesEveryCall();
        List<String> tested = between(HERE, "// as in README.md", "// so far");
        due("the example in README.md", tested, between(README, "```java", "```"));
        example();
        System.out.println(wrong == 0 ? "README.md is right" : wrong + " things are not as due");
        if (wrong != 0) {
            System.exit(1);
        }
    }

    private static void due(String what, Object want, Object got) {
        if (!got.equals(want)) {
            wrong++;
            System.out.println(what + ": it is " + got + ", due is " + want);
        }
    }

    private static void namesEveryCall() throws IOException {
        String text = Files.readString(README);
        for (Method m : RingPieces.class.getDeclaredMethods()) {
            if (Modifier.isPublic(m.getModifiers())) {
                due(m.getName() + " is named in README.md", true, text.contains("`" + m.getName() + "("));
            }
        }
    }

    private static List<String> between(Path file, String first, String last) throws IOException {
        List<String> found = new ArrayList<>();
        boolean inside = false;
        for (String line : Files.readAllLines(file)) {
            if (inside && line.strip().equals(last)) {
                return found;
            }
            if (inside) {
                found.add(line.strip());
            }
            inside |= line.strip().equals(first);
        }
        return found;
    }

    private static void example() {
        // as in README.md
        RingPieces tunnel = new RingPieces(3);  // three rings, all open
        int bent = tunnel.kind(10, 5);          // 0: a kind with taper 10, five in stock
        int even = tunnel.kind(0, 5);           // 1: one without taper
        tunnel.line(0, 640, 0);                 // the points the rings should come to
        tunnel.line(1, 1920, 640);
        tunnel.line(2, 3200, 1920);
        tunnel.look(2);                         // try two rings together
        int planned = tunnel.run();             // 3: all are planned
        int built = tunnel.build(1);            // 1: the first is built
        int moved = tunnel.survey(0, 5, -7);    // 1: it lies a little off; the others are open again
        int anew = tunnel.run();                // 2: the others are planned anew
        int refused = tunnel.build(3);          // -3: there are not so many
        long off = tunnel.sum();                // 222: how far all of them are off the line
        // so far
        due("the answers", List.of(0, 1, 3, 1, 1, 2, -3, 222L),
            List.of(bent, even, planned, built, moved, anew, refused, off));
    }
}
