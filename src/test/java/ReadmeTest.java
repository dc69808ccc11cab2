import java.io.IOException;
import java.lang.reflect.Method;
import java.nio.file.Files;
import java.nio.file.Path;
import java.util.regex.Matcher;
import java.util.regex.Pattern;

/** The example of README.md: each of its calls answers what stands behind it. */
public final class ReadmeTest {
    private static final Pattern CALL = Pattern.compile("fob\\.(\\w+)\\(([^)]*)\\); *// (-?\\d+)(,.*)?");

    public static void main(String[] args) throws IOException, ReflectiveOperationException {
        Due due = new Due();
        KeyFob fob = new KeyFob();
        String readme = Files.readString(Path.of("README.md"));
        String opening = "```java\n";
        int start = readme.indexOf(opening) + opening.length();
        for (String line : readme.substring(start, readme.indexOf("```", start)).split("\n")) {
            if (line.startsWith("fob.")) {
                Matcher call = CALL.matcher(line);
                boolean told = call.matches();
                due.holds("an answer is told: " + line, told);
                if (told) {
                    due.is(line, answer(fob, call.group(1), call.group(2)), Integer.parseInt(call.group(3)));
                }
            }
        }
        due.end();
    }

    private static int answer(KeyFob fob, String name, String list) throws ReflectiveOperationException {
        String[] texts = list.isEmpty() ? new String[0] : list.split(", ");
        Object[] numbers = new Object[texts.length];
        Class<?>[] types = new Class<?>[texts.length];
        for (int i = 0; i < texts.length; i++) {
            // Long, since a number such as 0xA3015820 has 32 bits without a sign.
            numbers[i] = Long.decode(texts[i]).intValue();
            types[i] = int.class;
        }
        Method method = KeyFob.class.getMethod(name, types);
        return (Integer) method.invoke(fob, numbers);
    }
}
