import java.io.IOException;
import java.nio.file.Files;
import java.nio.file.Path;
import java.util.regex.Matcher;
import java.util.regex.Pattern;

/** The calls that README.md shows answer what it says there. */
public final class ReadmeTest {
    private static final Due DUE = new Due("ReadmeTest");
    private static final Pattern CALL = Pattern.compile("line\\.(\\w+)\\(([^)]*)\\); +// (-?\\d+)\\b.*");

    public static void main(String[] args) throws IOException, ReflectiveOperationException {
        KilnLine line = new KilnLine();
        for (String text : Files.readAllLines(Path.of("README.md"))) {
            Matcher call = CALL.matcher(text);
            if (call.matches()) {
                DUE.is(text, answerOf(line, call.group(1), call.group(2)), Long.parseLong(call.group(3)));
            } else {
                DUE.holds(text + " has its answer", !text.startsWith("line."));
            }
        }
        DUE.holds("README.md shows calls of all parts", line.count(0) * line.count(1) * line.count(2) * line.count(3) > 0);
        DUE.end();
    }

    private static long answerOf(KilnLine line, String name, String list) throws ReflectiveOperationException {
        String[] words = list.isEmpty() ? new String[0] : list.split(", ");
        Object[] numbers = new Object[words.length];
        Class<?>[] types = new Class<?>[words.length];
        for (int k = 0; k < words.length; k++) {
            boolean truth = words[k].equals("true") || words[k].equals("false");
            numbers[k] = truth ? (Object) Boolean.valueOf(words[k]) : (Object) Integer.valueOf(words[k]);
            types[k] = truth ? boolean.class : int.class;
        }
        return ((Number) KilnLine.class.getMethod(name, types).invoke(line, numbers)).longValue();
    }
}
