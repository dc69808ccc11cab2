import java.io.IOException;
import java.lang.reflect.Method;
import java.nio.file.DirectoryStream;
import java.nio.file.Files;
import java.nio.file.Path;
import java.util.Arrays;

/** Each word of the document's terms and promises stands in a sentence that has a test of its own. */
public final class CoverTest {
    private static final String FIRST = "An object is used for", LAST = "## Not promised";

    private final Due due = new Due();
    private final String text;
    private final boolean[] covered;

    private CoverTest(String document) {
        text = plain(document.substring(document.indexOf(FIRST), document.indexOf(LAST)));
        covered = new boolean[text.length()];
    }

    public static void main(String[] args) throws IOException, ClassNotFoundException {
        CoverTest cover = new CoverTest(Files.readString(Path.of("../shared/DOC.md")));
        try (DirectoryStream<Path> files = Files.newDirectoryStream(Path.of("src/test/java"), "*Test.java")) {
            for (Path file : files) {
                cover.take(Class.forName(file.getFileName().toString().replace(".java", "")));
            }
        }
        cover.lookForGaps();
        cover.due.end();
    }

    /** Without headings, marks and the public face (which FaceTest looks at), and with single spaces. */
    private static String plain(String document) {
        String text = document.replaceAll("(?s)```java.*?```", " ").replace("```text", " ").replace("```", " ");
        return text.replaceAll("(?m)^##.*$", " ").replaceAll("======== \\d", " ").replaceAll("\\s+", " ");
    }

    private void take(Class<?> test) {
        for (Method method : Sentences.of(test)) {
            String words = method.getAnnotation(Says.class).value();
            int at = text.indexOf(words);
            due.holds(test.getName() + "." + method.getName() + " says words of the document", at >= 0);
            if (at >= 0) {
                due.holds("they stand there once: " + words, text.indexOf(words, at + 1) < 0);
                Arrays.fill(covered, at, at + words.length(), true);
            }
        }
    }

    private void lookForGaps() {
        StringBuilder gaps = new StringBuilder();
        for (int i = 0; i < covered.length; i++) {
            gaps.append(covered[i] ? '|' : text.charAt(i));
        }
        // The heads of methods name no more than the face does.
        String left = gaps.toString().replaceAll("`int \\w+\\([^)]*\\)`:", "").replaceAll("[|\\s]+", " ").trim();
        due.is("the words that no test stands for", left, "");
    }
}
