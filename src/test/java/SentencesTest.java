import java.io.IOException;
import java.nio.file.Files;
import java.nio.file.Path;

/** Each sentence of the document's "Description" stands in the comment of a test: Part0Test to Part6Test. */
public final class SentencesTest {
    private static final Path DOCUMENT = Path.of("..", "shared", "DOC.md");

    public static void main(String[] args) throws IOException {
        if (!Files.exists(DOCUMENT)) {
            System.out.println("SentencesTest: there is no " + DOCUMENT);
            return;
        }
        String comments = "";
        for (int part = 0; part <= 6; part++) {
            comments += Files.readString(Path.of("src", "test", "java", "Part" + part + "Test.java"));
        }
        comments = comments.replaceAll("\n *(/\\*\\*|\\*|//)", " ").replaceAll("\\s+", " ");
        String document = Files.readString(DOCUMENT);
        int begin = document.indexOf("## Description");
        int end = document.indexOf("The constructor and the methods follow");
        Check.due("there is a description", true, begin >= 0 && end > begin);
        String description = begin >= 0 && end > begin ? document.substring(begin, end) : "";
        for (String line : description.split("\n")) {
            if (line.isBlank() || line.startsWith("==") || line.startsWith("##")) {
                continue;
            }
            for (String sentence : line.strip().split("(?<=[.]|[.][)]) +")) {
                Check.due("a test of: " + sentence, true, comments.contains(sentence));
            }
        }
        Check.end("SentencesTest");
    }
}
