import java.io.IOException;
import java.nio.file.Files;
import java.nio.file.Path;
import java.util.regex.Matcher;
import java.util.regex.Pattern;

/** README.md: its short run answers as it says, and its calls are told in the document's words. */
public final class ReadmeTest {
    private static final Checks CHECKS = new Checks("ReadmeTest");
    private static final Pattern RUN = Pattern.compile("```java\n(MarkdownPlanner planner = .*?)```", Pattern.DOTALL);
    private static final Pattern CALL = Pattern.compile("planner\\.(\\w+)\\(([^)]*)\\); *// (.*)");
    private static final Pattern PROMISE =
            Pattern.compile("\n## Promise \\d+: (\\w+)\n\n`([^`]*?)( throws [^`]*)?`: (.*?)(?=\n## )", Pattern.DOTALL);

    public static void main(String[] args) throws IOException {
        String readme = Files.readString(Path.of("README.md"));
        String document = Files.readString(Path.of("../shared/DOC.md"));
        shortRun(readme);
        callsInTheDocumentsWords(readme, document);
        CHECKS.end();
    }

    private static void shortRun(String readme) {
        Matcher run = RUN.matcher(readme);
        if (!run.find()) {
            CHECKS.due("README.md", "a run of calls", "none");
            return;
        }
        String[] lines = run.group(1).split("\n");
        CHECKS.due("the first line", "MarkdownPlanner planner = new MarkdownPlanner();", lines[0]);
        MarkdownPlanner planner = new MarkdownPlanner();
        int calls = 0;
        for (int i = 1; i < lines.length; i++) {
            if (!lines[i].isEmpty() && !lines[i].startsWith("// ---- ")) {
                oneCall(planner, lines[i]);
                calls++;
            }
        }
        CHECKS.due("the run has calls", 1, calls > 20 ? 1 : 0);
    }

    private static void oneCall(MarkdownPlanner planner, String line) {
        Matcher call = CALL.matcher(line);
        if (!call.matches()) {
            CHECKS.due("a line of the run", "a call", line);
            return;
        }
        String told = call.group(3).split(":")[0];
        String want = told.endsWith("Exception") ? "throws." + told : told;
        // setRules answers nothing, so words alone stand behind it.
        want = call.group(1).equals("setRules") ? "0" : want;
        CHECKS.due(line, want, Calls.answer(planner, call.group(1), numbers(call.group(2))));
    }

    private static int[] numbers(String list) {
        String[] parts = list.isEmpty() ? new String[0] : list.split(", ");
        int[] numbers = new int[parts.length];
        for (int i = 0; i < parts.length; i++) {
            numbers[i] = Integer.parseInt(parts[i]);
        }
        return numbers;
    }

    private static void callsInTheDocumentsWords(String readme, String document) {
        Matcher promise = PROMISE.matcher(document);
        int calls = 0;
        while (promise.find()) {
            String entry = entryOf(readme, promise.group(2));
            for (String line : promise.group(4).split("\n+")) {
                String words = line.replaceFirst("^(- |Throws )", "");
                CHECKS.due(promise.group(1) + " in README.md: " + words, 1, entry.contains(words) ? 1 : 0);
            }
            calls++;
        }
        CHECKS.due("calls of the document", Calls.NAMES.length, calls);
    }

    /** What the list of calls says of one of them, on one line; empty if it is not there. */
    private static String entryOf(String readme, String signature) {
        int from = readme.indexOf("\n- `" + signature + "`: ");
        if (from < 0) {
            return "";
        }
        String rest = readme.substring(from + 1);
        return rest.split("\n(?=- |\n)")[0].replaceAll("\\s+", " ");
    }
}
