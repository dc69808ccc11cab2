import java.io.IOException;
import java.nio.file.Files;
import java.nio.file.Path;
import java.util.regex.Matcher;
import java.util.regex.Pattern;

/** Words that ../shared/LANGUAGE.md leaves out do not stand in the class, and its methods stay short. */
public final class LanguageTest {
    private static final String[] WORDS = {"package", "import", "throw", "throws", "try", "catch", "finally",
        "synchronized", "assert", "native", "volatile", "transient", "protected", "hashCode", "toString", "var"};

    public static void main(String[] args) throws IOException {
        Due due = new Due();
        String source = Files.readString(Path.of("src/main/java/KeyFob.java"));
        String code = source.replaceAll("(?s)/\\*.*?\\*/", "").replaceAll("//[^\n]*", "");
        for (String word : WORDS) {
            due.holds("'" + word + "' is not in the class", !Pattern.compile("\\b" + word + "\\b").matcher(code).find());
        }
        due.holds("no lambda", !code.contains("->"));
        due.holds("no method reference", !code.contains("::"));
        due.holds("no text", code.indexOf('"') < 0);
        due.holds("no while: each loop counts", !Pattern.compile("\\bwhile\\b").matcher(code).find());
        Matcher library = Pattern.compile("\\b(Math|System|Arrays|Integer|Long|String)\\.(\\w+)").matcher(code);
        while (library.find()) {
            String call = library.group();
            due.holds(call + " is in the list", call.equals("Math.max") || call.equals("Math.min")
                    || call.equals("System.arraycopy"));
        }
        lengths(due, source);
        due.end();
    }

    /** A method begins at a line that opens a brace behind a parenthesis and ends at the brace below its first letter. */
    private static void lengths(Due due, String source) {
        String[] lines = source.split("\n");
        for (int i = 0; i < lines.length; i++) {
            Matcher head = Pattern.compile("^((?:    ){1,2})[A-Za-z].*\\) \\{$").matcher(lines[i]);
            if (!head.find() || lines[i].trim().matches("(if|for|switch|while|else).*")) {
                continue;
            }
            int end = i;
            while (end < lines.length && !lines[end].equals(head.group(1) + "}")) {
                end++;
            }
            due.holds(lines[i].trim() + " has at most sixty lines", end - i + 1 <= 60);
        }
    }
}
