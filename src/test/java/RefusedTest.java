import java.io.IOException;

/** Every call, with each argument just beyond its range and far beyond, in states that are new, busy and full. */
public final class RefusedTest {
    private static final String[] FAR = {"least", "most"};
    private static final Run NEW = Run.of();
    private static final Run BUSY = Run.of("begin 3", "stage 0 100 30", "stage 2 7 200", "set 0 5000", "set 1 2",
            "set 2 800", "give 9999", "text s77;l1,5,6;s7").times(20, "give 4321")
            .and("set 3 5000", "stage 1 3 4", "give 17", "idle 3");
    /** All hand-overs, a text of 60 characters that can be played but for them, and four states. */
    private static final Run FULL = Run.of("set 1 12", "text s1;s2;s3;s4;s5;s6;s7;s8;s9;s0;",
            "text s1;s2;s3;s4;s5;s6;s7;s8;s9;s0;").times(22, "idle 40").and("idle 33", "give 9", "give 0")
            .and("set 0 1000", "stage 3 0 300");
    private static final Run FAULTY = Run.of("begin 2", "set 1 1", "give 5", "text s1;l9,0,0;");
    private static final Run[] STATES = {NEW, BUSY, FULL, FAULTY};

    public static void main(String[] args) throws IOException {
        statesAreAsTheyAreMeant();
        argumentsOutOfRange();
        limits();
        notPossible();
        notFound();
        argumentsInRange();
        questionsChangeNothing();
        Check.end(args);
    }

    private static void statesAreAsTheyAreMeant() {
        Check.sentence("A call that returns an error changes nothing.");
        BUSY.due("count 0", 3).due("count 2", 16).due("count 4", 3).due("count 7", 4);
        FULL.due("count 1", 999).due("count 8", 60).due("count 7", 4).due("fault 0", Check.NOT_FOUND);
        FAULTY.due("fault 0", 3).due("fault 1", 2);
    }

    private static void argumentsOutOfRange() {
        Check.sentence("A call that returns an error changes nothing.");
        int[] stages = {4, 3, 4, 2};
        for (int i = 0; i < STATES.length; i++) {
            Run state = STATES[i];
            int last = stages[i] - 1;
            refusesChangesBeyond(state, last);
            refusesQuestionsBeyond(state, last);
        }
    }

    private static void refusesChangesBeyond(Run state, int last) {
        refusesBeyond(state, "begin", 2, 10);
        refusesBeyond(state, "stage", 0, last, 0, 300, 0, 300);
        refusesBeyond(state, "set 0", 1000, 100000);
        refusesBeyond(state, "set 1", 0, 12);
        for (int size = 2; size <= 4; size++) {
            refusesBeyond(state, "set " + size, 1, 10000);
        }
        for (String what : new String[] {"-1", "5", "least", "most"}) {
            state.refuses("set " + what + " 5000", Check.INVALID);
        }
        refusesBeyond(state, "give", 0, 10000);
        refusesBeyond(state, "idle", 1, 40);
        refusesBeyond(state, "type", 32, 126);
    }

    private static void refusesQuestionsBeyond(Run state, int last) {
        refusesBeyond(state, "stageOf", 0, last, 0, 5);
        for (String index : new String[] {"-1", "least"}) {
            state.refuses("outputOf " + index + " 0", Check.INVALID);
        }
        refusesBeyond(state, "outputOf 0", 0, 5);
        refusesBeyond(state, "outputOf most", 0, 5);
        refusesBeyond(state, "pairOf", 0, 2, 0, 1);
        refusesBeyond(state, "mended", 0, 100000);
        refusesBeyond(state, "errors", 0, 3);
        refusesBeyond(state, "account", 0, 4);
        refusesBeyond(state, "echo", 0, 10000, 1, 40);
        refusesBeyond(state, "worn", 0, 1);
        refusesBeyond(state, "fault", 0, 2);
        for (String what : new String[] {"-1", "9", "19", "25", "least", "most"}) {
            state.refuses("count " + what, Check.INVALID);
        }
    }

    /** The ranges are the least and the most of each argument in turn. */
    private static void refusesBeyond(Run state, String name, int... ranges) {
        int many = ranges.length / 2;
        for (int wrong = 0; wrong < many; wrong++) {
            String below = String.valueOf(ranges[2 * wrong] - 1);
            String above = String.valueOf(ranges[2 * wrong + 1] + 1);
            state.refuses(call(name, ranges, wrong, below), Check.INVALID);
            state.refuses(call(name, ranges, wrong, above), Check.INVALID);
            for (String far : FAR) {
                state.refuses(call(name, ranges, wrong, far), Check.INVALID);
            }
        }
    }

    /** The call with one argument as it is told, and the others as little as they may be. */
    private static String call(String name, int[] ranges, int told, String argument) {
        StringBuilder call = new StringBuilder(name);
        for (int i = 0; i < ranges.length / 2; i++) {
            call.append(' ').append(i == told ? argument : String.valueOf(ranges[2 * i]));
        }
        return call.toString();
    }

    private static void limits() {
        Check.sentence("`LIMIT_REACHED = -2000003`: A fixed limit has been reached.");
        for (String call : new String[] {"give 0", "give 10000", "idle 1", "idle 40", "type 32", "type 126", "play"}) {
            FULL.refuses(call, Check.LIMIT);
        }
    }

    private static void notPossible() {
        Check.sentence("`NOT_POSSIBLE = -2000002`: The call is not possible in the present state.");
        NEW.refuses("undo", Check.NOT_POSSIBLE);
        BUSY.times(4, "undo").refuses("undo", Check.NOT_POSSIBLE);
        FULL.times(4, "undo").refuses("undo", Check.NOT_POSSIBLE);
        BUSY.refuses("play", Check.NOT_POSSIBLE);
        FAULTY.refuses("play", Check.NOT_POSSIBLE);
        FULL.and("clearText", "text s").refuses("play", Check.NOT_POSSIBLE);
    }

    private static void notFound() {
        Check.sentence("`NOT_FOUND = -2000004`: There is no such value.");
        for (String call : new String[] {"outputOf 0 0", "outputOf 0 5", "outputOf most 3", "pairOf 0 0", "pairOf 2 1",
            "mended 0", "mended 100000", "errors 1", "errors 2", "errors 3", "fault 0", "fault 1", "fault 2"}) {
            NEW.refuses(call, Check.NOT_FOUND);
            FULL.and("begin 4", "clearText").refuses(call, Check.NOT_FOUND);
        }
        BUSY.refuses("outputOf 16 0", Check.NOT_FOUND).refuses("outputOf most 5", Check.NOT_FOUND);
        FAULTY.refuses("fault 2", Check.NOT_FOUND);
    }

    private static void argumentsInRange() {
        Check.sentence("`INVALID_ARGUMENT = -2000001`: An argument is out of its range, or there is no such stage.");
        String[] calls = {"begin 2", "begin 10", "stage 0 0 0", "stage 1 300 300", "set 0 1000", "set 0 100000", "set 1 0",
            "set 1 12", "set 2 1", "set 2 10000", "set 3 1", "set 3 10000", "set 4 1", "set 4 10000", "give 0",
            "give 10000", "idle 1", "idle 40", "stageOf 0 0", "stageOf 1 5", "outputOf 0 0", "outputOf most 5",
            "pairOf 0 0", "pairOf 2 1", "mended 0", "mended 100000", "errors 0", "errors 3", "account 0", "account 4",
            "echo 0 1", "echo 10000 40", "emptyAfter", "worn 0", "worn 1", "safe", "count 0", "count 8", "count 20",
            "count 24", "undo", "type 32", "type 126", "clearText", "fault 0", "fault 2", "play"};
        for (Run state : STATES) {
            for (String call : calls) {
                Check.holds(call + " has arguments in their ranges", state.answer(call) != Check.INVALID);
            }
        }
    }

    private static void questionsChangeNothing() {
        Check.sentence("The changes are the calls of begin, stage, set, give, idle and play that return no error.");
        String[] questions = {"stageOf 0 0", "stageOf 1 5", "outputOf 0 3", "pairOf 0 0", "mended 777", "errors 0",
            "errors 3", "account 4", "echo 10000 40", "echo 1 1", "emptyAfter", "worn 0", "worn 1", "safe", "count 6",
            "fault 0", "fault 1", "fault 2"};
        for (Run state : STATES) {
            for (String question : questions) {
                state.same(state.and("?" + question), question + " is asked");
            }
        }
    }
}
