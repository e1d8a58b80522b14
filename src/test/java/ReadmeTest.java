import java.io.IOException;
import java.nio.file.Files;
import java.nio.file.Path;
import java.util.Map;
import java.util.TreeSet;
import java.util.regex.Matcher;
import java.util.regex.Pattern;

/** README.md: it says of each call what the document says, and its examples answer what they tell. */
public final class ReadmeTest {
    private static final int PROMISES = 22;
    private static final Map<String, Integer> ERRORS = Map.of("INVALID_ARGUMENT", Check.INVALID,
            "NOT_POSSIBLE", Check.NOT_POSSIBLE, "LIMIT_REACHED", Check.LIMIT, "NOT_FOUND", Check.NOT_FOUND);
    private static final Pattern CALL = Pattern.compile("line\\.(\\w+)\\(([-\\d, ]*)\\); +// (-?\\d+|[A-Z_]+)\\b.*");
    private static final Pattern TYPED = Pattern.compile("for \\(char sign : \"([ -~]+)\"\\.toCharArray\\(\\)\\) \\{");

    public static void main(String[] args) throws IOException {
        Check.holds("the document and README.md are given", args.length > 2);
        if (args.length > 2) {
            String document = Files.readString(Path.of(args[1]));
            String readme = Files.readString(Path.of(args[2]));
            face(document, readme);
            promises(document, readme);
            errors(document, readme);
            examples(readme);
            Check.holds("how the tests are run", readme.contains("\n    .ci/run\n"));
        }
        Check.end();
    }

    private static void face(String document, String readme) {
        Matcher block = Pattern.compile("## The public face\\s+(```java\n.*?```)", Pattern.DOTALL).matcher(document);
        Check.holds("the document has a face", block.find());
        Check.holds("README.md has the face", readme.contains(block.group(1)));
    }

    private static void promises(String document, String readme) {
        String words = onOneLine(readme);
        Matcher promise = Pattern.compile("## Promise (\\d+): [^\n]*\n(.*?)(?=\n## )", Pattern.DOTALL).matcher(document);
        int many = 0;
        while (promise.find()) {
            many++;
            for (String line : promise.group(2).strip().split("\n+")) {
                Check.holds("README.md says of promise " + promise.group(1) + ": " + line, words.contains(line));
            }
        }
        Check.due("promises", many, PROMISES);
    }

    /** What stands in the document of changes, of errors and of each constant. */
    private static void errors(String document, String readme) {
        String words = onOneLine(readme);
        Matcher part = Pattern.compile("### Changes and errors\n(.*?)\n## ", Pattern.DOTALL).matcher(document);
        Check.holds("the document tells of errors", part.find());
        int many = 0;
        for (String line : part.group(1).strip().split("\n+")) {
            String said = line.replace("The constants: ", "");
            if (!said.startsWith("Ahead of the calls")) {
                many++;
                Check.holds("README.md says: " + said, words.contains(said));
            }
        }
        Check.due("changes, errors, and four constants", many, 2 + ERRORS.size());
    }

    private static String onOneLine(String text) {
        return text.replaceAll("\\s+", " ");
    }

    private static void examples(String readme) {
        Run run = Run.of();
        TreeSet<String> used = new TreeSet<>();
        for (String line : readme.split("\n")) {
            Matcher typed = TYPED.matcher(line);
            if (line.startsWith("ChargeLines line = new ChargeLines();")) {
                run = Run.of();
            } else if (typed.matches()) {
                run = run.and("text " + typed.group(1));
            } else if (line.startsWith("line.")) {
                run = answered(run, line, used);
            }
        }
        for (String name : new String[] {"begin", "stage", "set", "give", "idle", "outputOf", "play", "undo"}) {
            Check.holds("an example of " + name, used.contains(name));
        }
    }

    private static Run answered(Run run, String line, TreeSet<String> used) {
        Matcher matcher = CALL.matcher(line);
        Check.holds("the example tells its answer: " + line, matcher.matches());
        if (!matcher.matches()) {
            return run;
        }
        used.add(matcher.group(1));
        String call = (matcher.group(1) + " " + matcher.group(2).replace(",", "")).strip();
        String told = matcher.group(3);
        run.due(call, ERRORS.containsKey(told) ? ERRORS.get(told) : Integer.parseInt(told));
        return run.and("?" + call);
    }
}
