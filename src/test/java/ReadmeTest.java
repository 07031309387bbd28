import java.io.IOException;
import java.nio.file.Files;
import java.nio.file.Path;
import java.util.Set;
import java.util.TreeSet;
import java.util.regex.Matcher;
import java.util.regex.Pattern;

/** Goes the calls that README.md tells and compares the answers that stand behind them. */
public final class ReadmeTest {
    private static final int ALL_CALLS = 28;
    private static final Pattern CALL = Pattern.compile("x\\.(\\w+)\\((.*?)\\);\\s+// (-?\\d+)(:.*)?");

    private final Due due = new Due();
    private final JumpFlows x = new JumpFlows();
    private final Set<String> told = new TreeSet<>();

    public static void main(String[] args) throws IOException {
        ReadmeTest test = new ReadmeTest();
        boolean isCode = false;
        for (String line : Files.readAllLines(Path.of("README.md"))) {
            if (line.startsWith("```")) {
                isCode = line.equals("```java");
            } else if (isCode && !line.equals("JumpFlows x = new JumpFlows();")) {
                test.line(line);
            }
        }
        test.due.part("README.md");
        test.due.is("calls that are told", test.told.size(), ALL_CALLS);
        test.due.end("ReadmeTest");
    }

    private void line(String line) {
        due.part(line);
        Matcher found = CALL.matcher(line);
        boolean isCall = found.matches();
        due.is("a call with its answer", isCall ? 1 : 0, 1);
        if (isCall) {
            told.add(found.group(1));
            int answer = Twins.ask(x, found.group(1), given(found.group(2)));
            due.is(found.group(1), answer, Integer.parseInt(found.group(3)));
        }
    }

    private static Object[] given(String text) {
        String[] parts = text.isEmpty() ? new String[0] : text.split(", ");
        Object[] given = new Object[parts.length];
        for (int i = 0; i < parts.length; i++) {
            boolean isTruth = parts[i].equals("true") || parts[i].equals("false");
            given[i] = isTruth ? Boolean.parseBoolean(parts[i]) : (Object) Integer.parseInt(parts[i]);
        }
        return given;
    }
}
