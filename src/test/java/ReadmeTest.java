import java.io.ByteArrayOutputStream;
import java.io.IOException;
import java.io.PrintStream;
import java.nio.charset.StandardCharsets;
import java.nio.file.Files;
import java.nio.file.Path;

/** README.md shows Example.java as it is, and what it prints. */
public final class ReadmeTest {
    private ReadmeTest() {
    }

    public static void main(String[] args) throws IOException {
        String readme = Files.readString(Path.of("README.md"));
        String example = Files.readString(Path.of("src/test/java/Example.java"));
        Check.due("the example is Example.java", block(readme, "java").equals(example), true);
        String printed = printed();
        Check.due("the example prints " + printed, block(readme, "text").equals(printed), true);
        Check.due("it says how to run the tests", readme.contains("bash .ci/run"), true);
        Check.end("ReadmeTest");
    }

    /** The first block of a kind. */
    private static String block(String text, String kind) {
        String fence = "```";
        int start = text.indexOf(fence + kind + "\n") + fence.length() + kind.length() + 1;
        int end = text.indexOf(fence, start);
        return end < start ? "" : text.substring(start, end);
    }

    private static String printed() {
        PrintStream before = System.out;
        ByteArrayOutputStream bytes = new ByteArrayOutputStream();
        System.setOut(new PrintStream(bytes, true, StandardCharsets.UTF_8));
        Example.main(new String[0]);
        System.setOut(before);
        return bytes.toString(StandardCharsets.UTF_8).replace(System.lineSeparator(), "\n");
    }
}
