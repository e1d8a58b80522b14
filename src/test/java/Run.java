import java.util.ArrayList;
import java.util.List;

/**
 * Calls in a row, as words ("give 500"; "text s1;" types each sign of a text), that are made on a new object for every
 * question: so one question cannot disturb the next one, and no object is used for more calls than are promised.
 */
final class Run {
    static final int MOST_CALLS = 512;
    /** How often a picture undoes: once more than there can be states in the history. */
    private static final int UNDOS = 5;

    private final List<String> calls;

    private Run(List<String> calls) {
        this.calls = calls;
    }

    static Run of(String... calls) {
        return new Run(List.of(calls));
    }

    Run and(String... more) {
        List<String> longer = new ArrayList<>(calls);
        longer.addAll(List.of(more));
        return new Run(longer);
    }

    Run times(int many, String call) {
        List<String> longer = new ArrayList<>(calls);
        for (int i = 0; i < many; i++) {
            longer.add(call);
        }
        return new Run(longer);
    }

    /** So many samples that are 0. */
    Run idles(int many) {
        Run longer = times(many / 40, "idle 40");
        return many % 40 == 0 ? longer : longer.and("idle " + many % 40);
    }

    int answer(String call) {
        return made().call(call);
    }

    /** Checks one answer. */
    Run due(String call, long due) {
        Check.due(Check.tested() + " | " + tail() + " | " + call, answer(call), due);
        return this;
    }

    /** Checks that a call is refused, and that all answers are then as they were without it, now and later. */
    Run refuses(String call, int error) {
        due(call, error);
        // "?": this call may be refused.
        same(and("?" + call), call + " is refused");
        return this;
    }

    /** Checks that all answers are the same behind another run. */
    void same(Run other, String why) {
        String here = picture();
        String there = other.picture();
        Check.holds(Check.tested() + " | " + tail() + " | " + why + ": the same state behind it "
                + difference(here, there), here.equals(there));
    }

    /** All answers that do not tell of the history, each on an object that has made the run. */
    String looks() {
        StringBuilder answers = new StringBuilder();
        looksInto(answers);
        return answers.toString();
    }

    /** All answers: as it is, behind each undo there can be, and behind further changes. */
    private String picture() {
        StringBuilder answers = new StringBuilder();
        Run undone = this;
        for (int undos = 0; undos <= UNDOS; undos++) {
            answers.append("undone ").append(undos).append(": ").append(undone.answer("count 7")).append('\n');
            undone.looksInto(answers);
            undone = undone.and("?undo");
        }
        answers.append("later:\n");
        and("?play", "?give 4321", "stage 1 20 30", "?idle 11", "?type 59").looksInto(answers);
        return answers.toString();
    }

    private void looksInto(StringBuilder answers) {
        Use use = made();
        int stages = use.call("count 0");
        for (String call : lookCalls(stages)) {
            answers.append(call).append(" = ").append(use.call(call)).append('\n');
        }
    }

    private static List<String> lookCalls(int stages) {
        List<String> looks = new ArrayList<>();
        add(looks, "count", new int[] {0, 1, 2, 3, 4, 5, 6, 8, 20, 21, 22, 23, 24});
        for (int what = 0; what < 6; what++) {
            for (int stage = 0; stage < stages; stage++) {
                looks.add("stageOf " + stage + " " + what);
            }
            for (int index = 0; index <= 16; index++) {
                looks.add("outputOf " + index + " " + what);
            }
        }
        for (int reference = 0; reference < 3; reference++) {
            looks.add("pairOf " + reference + " 0");
            looks.add("pairOf " + reference + " 1");
        }
        add(looks, "mended", new int[] {0, 1, 777, 5000, 100000});
        add(looks, "errors", new int[] {0, 1, 2, 3});
        add(looks, "account", new int[] {0, 1, 2, 3, 4});
        looks.addAll(List.of("echo 10000 " + stages, "echo 9999 40", "emptyAfter", "worn 0", "worn 1", "safe"));
        add(looks, "fault", new int[] {0, 1, 2});
        return looks;
    }

    private static void add(List<String> looks, String name, int[] arguments) {
        for (int argument : arguments) {
            looks.add(name + " " + argument);
        }
    }

    private static String difference(String here, String there) {
        String[] one = here.split("\n");
        String[] other = there.split("\n");
        for (int i = 0; i < Math.min(one.length, other.length); i++) {
            if (!one[i].equals(other[i])) {
                return "(" + one[i] + " or " + other[i] + ")";
            }
        }
        return "";
    }

    private String tail() {
        int from = Math.max(0, calls.size() - 6);
        return (from > 0 ? ".. " : "") + String.join(", ", calls.subList(from, calls.size()));
    }

    private Use made() {
        Use use = new Use();
        for (String call : calls) {
            boolean mayBeRefused = call.startsWith("?");
            int answer = use.call(mayBeRefused ? call.substring(1) : call);
            if (!mayBeRefused && answer <= Check.INVALID) {
                Check.holds(tail() + " | the call " + call + " of the test is not refused", false);
            }
        }
        return use;
    }

    /** One object, and how many calls it was used for. */
    private static final class Use {
        private final ChargeLines lines = new ChargeLines();
        private int used;

        int call(String words) {
            if (words.startsWith("text ")) {
                return text(words.substring(5));
            }
            count();
            String[] parts = words.split(" ");
            int[] arguments = new int[parts.length - 1];
            for (int i = 0; i < arguments.length; i++) {
                arguments[i] = number(parts[i + 1]);
            }
            return switch (arguments.length) {
                case 0 -> plain(parts[0]);
                case 1 -> withOne(parts[0], arguments[0]);
                default -> withMore(parts[0], arguments);
            };
        }

        private int text(String signs) {
            int length = 0;
            for (int i = 0; i < signs.length(); i++) {
                count();
                length = lines.type(signs.charAt(i));
            }
            return length;
        }

        private void count() {
            used++;
            if (used > MOST_CALLS) {
                throw new IllegalStateException("the test uses one object for too many calls");
            }
        }

        private static int number(String word) {
            return switch (word) {
                case "least" -> Integer.MIN_VALUE;
                case "most" -> Integer.MAX_VALUE;
                default -> Integer.parseInt(word);
            };
        }

        private int plain(String name) {
            return switch (name) {
                case "emptyAfter" -> lines.emptyAfter();
                case "safe" -> lines.safe();
                case "undo" -> lines.undo();
                case "clearText" -> lines.clearText();
                case "play" -> lines.play();
                default -> throw new IllegalArgumentException(name);
            };
        }

        private int withOne(String name, int a) {
            return switch (name) {
                case "begin" -> lines.begin(a);
                case "give" -> lines.give(a);
                case "idle" -> lines.idle(a);
                case "mended" -> lines.mended(a);
                case "errors" -> lines.errors(a);
                case "account" -> lines.account(a);
                case "worn" -> lines.worn(a);
                case "count" -> lines.count(a);
                case "type" -> lines.type(a);
                case "fault" -> lines.fault(a);
                default -> throw new IllegalArgumentException(name);
            };
        }

        private int withMore(String name, int[] a) {
            return switch (name) {
                case "stage" -> lines.stage(a[0], a[1], a[2]);
                case "set" -> lines.set(a[0], a[1]);
                case "stageOf" -> lines.stageOf(a[0], a[1]);
                case "outputOf" -> lines.outputOf(a[0], a[1]);
                case "pairOf" -> lines.pairOf(a[0], a[1]);
                case "echo" -> lines.echo(a[0], a[1]);
                default -> throw new IllegalArgumentException(name);
            };
        }
    }
}
