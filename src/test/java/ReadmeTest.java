import java.io.IOException;
import java.lang.reflect.Method;
import java.lang.reflect.Modifier;
import java.nio.file.Files;
import java.nio.file.Path;
import java.util.List;
import java.util.stream.Collectors;

/** What README.md says of the use of the class: its example, and a line for each call. */
public final class ReadmeTest {
    private static final Path README = Path.of("README.md");
    private static final Path THIS = Path.of("src/test/java/ReadmeTest.java");

    public static void main(String[] args) throws IOException {
        List<String> readme = Files.readAllLines(README);
        exampleStandsHere(readme);
        exampleAnswers();
        everyCallHasItsLine(readme);
        Due.end();
    }

    /** So that the example which runs below is the one that is read. */
    private static void exampleStandsHere(List<String> readme) throws IOException {
        int from = readme.indexOf("```java") + 1;
        int to = from + readme.subList(from, readme.size()).indexOf("```");
        String example = bare(readme.subList(from, to));
        Due.due("README.md has an example", example.isEmpty() ? 0 : 1, 1);
        Due.due("it is the one that runs", bare(Files.readAllLines(THIS)).contains(example) ? 1 : 0, 1);
    }

    /** Lines without their comments, and without the spaces at either end. */
    private static String bare(List<String> lines) {
        return lines.stream().map(line -> line.replaceAll("//.*", "").strip())
                .collect(Collectors.joining("\n"));
    }

    private static void exampleAnswers() {
        FountainRows rows = new FountainRows();
        int s = rows.source(4, 2, 3, 77);
        rows.symbol(s, 0, 0x123456);
        for (int x = 100; rows.told(s, 2) == 0 && x < 160; x++) {
            rows.frame(s, x);
            rows.take();
        }
        long first = rows.known(s, 0);
        int length = rows.image(s);
        int rank = rows.resume(s);
        Due.due("the source's number", s, 0);
        Due.due("its receiver is done", rows.told(s, 2), 1);
        Due.due("the first symbol", first, 0x123456);
        Due.due("the length of the image", length, 11 + 5 * rows.told(s, 1));
        Due.due("the rank", rank, 6);
    }

    private static void everyCallHasItsLine(List<String> readme) {
        for (Method method : FountainRows.class.getDeclaredMethods()) {
            if (Modifier.isPublic(method.getModifiers())) {
                String start = "| `" + method.getName() + "(";
                long lines = readme.stream().filter(line -> line.startsWith(start)).count();
                Due.due("lines of README.md for " + method.getName(), lines, 1);
            }
        }
    }
}
