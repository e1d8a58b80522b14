import java.io.IOException;
import java.nio.file.Files;
import java.nio.file.Path;
import java.util.ArrayList;
import java.util.List;

/** Counts what is not as it is due, and ends a test program. */
final class Check {
    static final int INVALID = -2000001;
    static final int NOT_POSSIBLE = -2000002;
    static final int LIMIT = -2000003;
    static final int NOT_FOUND = -2000004;

    /** How many wrong answers are printed; one fault may make thousands. */
    private static final int MOST_PRINTED = 100;
    private static final List<String> SENTENCES = new ArrayList<>();
    private static int checks = 0;
    private static int wrong = 0;

    private Check() {
    }

    static void due(String what, long got, long due) {
        checks++;
        if (got != due) {
            wrong++;
            if (wrong <= MOST_PRINTED) {
                System.out.println(what + " answered " + got + ", due is " + due);
            }
        }
    }

    static void holds(String what, boolean condition) {
        due(what, condition ? 1 : 0, 1);
    }

    /** Begins the test of a sentence, which is quoted from the document as it stands there. */
    static void sentence(String words) {
        SENTENCES.add(words);
    }

    /** The sentence that is tested now. */
    static String tested() {
        return SENTENCES.isEmpty() ? "" : SENTENCES.get(SENTENCES.size() - 1);
    }

    static int count() {
        return checks;
    }

    static boolean allRight() {
        return wrong == 0;
    }

    /** Ends a test of sentences: each of them must stand in the document, the second argument of the program. */
    static void end(String[] args) throws IOException {
        holds("the document is given", args.length > 1);
        if (args.length > 1) {
            String document = Files.readString(Path.of(args[1]));
            for (String words : SENTENCES) {
                holds("in the document: " + words, document.contains(words));
            }
        }
        end();
    }

    static void end() {
        System.out.println(checks + " checks, " + wrong + " wrong");
        if (wrong != 0 || checks == 0) {
            System.exit(1);
        }
    }

    /** Types a whole text. */
    static void type(ChargeLines lines, String text) {
        for (int i = 0; i < text.length(); i++) {
            lines.type(text.charAt(i));
        }
    }

    /** Makes an object with settings as after set(0, ..), set(1, ..) and begin(..). */
    static ChargeLines line(int stages, int capacity, int period) {
        ChargeLines lines = new ChargeLines();
        lines.begin(stages);
        lines.set(0, capacity);
        lines.set(1, period);
        return lines;
    }
}
