import java.io.IOException;

/** The edges of "Changes and errors" and of the promises 13 to 18: a test for each sentence. */
public final class WouldBeEdgesTest {
    public static void main(String[] args) throws IOException {
        changesAndErrors();
        promises13And14();
        promises15And16();
        promises17And18();
        Check.end(args);
    }

    private static void changesAndErrors() {
        changesThatReturnNoError();
        atMostFourStates();
        everythingButTheText();
        oldestIsDropped();
        roundTheStates();
        errorsInTheirOrder();
        noStageWithANumber();
        constants();
    }

    private static void promises13And14() {
        promise13EmptyLine();
        promise13Later();
        promise13Capacity();
        promise13Range();
        promise14Empty();
        promise14OfStages();
        promise14Most();
        promise14WithoutReferences();
    }

    private static void promises15And16() {
        promise15Lowest();
        promise15Last();
        promise15ByTheNumberOfStages();
        promise15Refused();
        promise16Greatest();
        promise16Capacity();
        promise16EveryStage();
        promise16FortyTimes();
        promise16WithoutReferences();
    }

    private static void promises17And18() {
        promise17AtFirst();
        promise17Kept();
        promise17NextForAReference();
        promise17Settings();
        promise17Refused();
        promise18Empty();
        promise18Left();
        promise18Restores();
    }

    private static void changesThatReturnNoError() {
        Check.sentence("The changes are the calls of begin, stage, set, give, idle and play that return no error.");
        String[] changes = {"begin 2", "begin 10", "begin 4", "stage 0 0 0", "stage 3 300 300", "set 0 20000", "set 1 12",
            "give 0", "give 10000", "idle 1", "idle 40", "play"};
        for (String change : changes) {
            // Also a change that leaves all as it was is one.
            Run.of(change).due("count 7", 1).due("undo", 0);
            Run.of(change, "undo").due("count 7", 0).due("undo", Check.NOT_POSSIBLE);
        }
        String[] none = {"undo", "type 65", "clearText", "fault 0", "count 0", "stageOf 0 0", "outputOf 0 0", "pairOf 0 0",
            "mended 0", "errors 3", "account 0", "echo 10000 40", "emptyAfter", "worn 0", "safe", "begin 1",
            "stage 4 0 0", "stage 0 301 0", "set 1 13", "give 10001", "idle 0"};
        for (String call : none) {
            Run.of("?" + call).due("count 7", 0).due("undo", Check.NOT_POSSIBLE);
        }
        Run.of("type 65", "?play").due("count 7", 0);
        Run.of().idles(999).and("undo").due("count 7", 3).and("idle 39", "?idle 1", "?give 5").due("count 7", 4);
    }

    private static void atMostFourStates() {
        Check.sentence("A history of at most 4 states is kept:");
        Run run = Run.of();
        for (int changes = 0; changes <= 9; changes++) {
            run.due("count 7", Math.min(changes, 4));
            run = run.and("give " + changes);
        }
    }

    private static void everythingButTheText() {
        Check.sentence("each change records everything before it but the text,");
        Run before = Run.of("begin 3", "set 0 3000", "set 1 2", "set 2 777", "stage 0 150 20", "stage 2 5 290",
                "text l1,2,3;s9;").times(15, "give 5000");
        Run[] behind = {before.and("begin 2", "undo"), before.and("stage 0 0 0", "undo"), before.and("set 1 0", "undo"),
            before.and("set 0 100000", "undo"), before.and("give 10000", "undo"), before.and("idle 40", "undo"),
            before.and("play", "undo"), before.and("begin 10", "idle 40", "set 2 1", "stage 9 7 7", "undo", "undo",
            "undo", "undo")};
        for (Run run : behind) {
            Check.holds(Check.tested() + " | all as before", run.looks().equals(before.looks()));
            String[] later = {"give 1234", "idle 7"};
            Check.holds(Check.tested() + " | later, too", run.and(later).looks().equals(before.and(later).looks()));
        }
        // The text is neither taken back nor emptied.
        Run.of("give 1", "text s5;", "undo").due("count 8", 3).due("play", 1);
        Run.of("text s5;", "play", "clearText", "undo").due("count 8", 0).due("fault 0", Check.NOT_FOUND);
        Run.of("text s5;", "give 1", "text x", "undo").due("count 8", 4).due("fault 0", 3);
    }

    private static void oldestIsDropped() {
        Check.sentence("and if there are 5 states then, the oldest one is dropped.");
        Run four = Run.of("give 1", "give 2", "give 3", "give 4");
        four.and("undo", "undo", "undo", "undo").due("count 1", 0).due("account 0", 0).due("undo", Check.NOT_POSSIBLE);
        Run five = four.and("give 5");
        five.and("undo", "undo", "undo").due("account 0", 3).due("undo", 0);
        five.and("undo", "undo", "undo", "undo").due("count 1", 1).due("account 0", 1).due("undo", Check.NOT_POSSIBLE);
        Run many = four.times(30, "set 1 0");
        many.and("undo", "undo", "undo", "undo").due("count 1", 4).due("undo", Check.NOT_POSSIBLE);
    }

    private static void roundTheStates() {
        Check.sentence("A history of at most 4 states is kept:");
        // Undo and changes in turn, over more states than there are places.
        for (int first = 0; first <= 9; first++) {
            Run run = Run.of();
            for (int i = 1; i <= first; i++) {
                run = run.and("give " + i);
            }
            int back = Math.min(first, 2);
            run = run.times(back, "undo").and("give 100", "give 200", "give 300");
            int sum = 0;
            for (int i = 1; i <= first - back; i++) {
                sum += i;
            }
            run.due("account 0", sum + 600).and("undo").due("account 0", sum + 300).and("undo")
                    .due("account 0", sum + 100);
            run.and("undo", "undo", "undo").due("account 0", sum);
            int left = Math.min(4, Math.min(first, 4) - back + 3);
            run.due("count 7", left).times(left, "undo").due("undo", Check.NOT_POSSIBLE);
        }
    }

    private static void errorsInTheirOrder() {
        Check.sentence("If several errors apply to a call, INVALID_ARGUMENT is returned rather than NOT_POSSIBLE, "
                + "NOT_POSSIBLE rather than LIMIT_REACHED, and LIMIT_REACHED rather than NOT_FOUND.");
        Run full = Run.of().idles(999);
        full.refuses("give 10001", Check.INVALID).refuses("idle 41", Check.INVALID).refuses("idle 0", Check.INVALID);
        full.and("text s1;x").refuses("play", Check.NOT_POSSIBLE);
        full.and("text s1;").refuses("play", Check.LIMIT);
        full.and("text s1;l9,1,1;").refuses("play", Check.NOT_POSSIBLE);
        Run.of().times(60, "type 59").refuses("type 31", Check.INVALID).refuses("type 127", Check.INVALID)
                .refuses("type 65", Check.LIMIT);
        Run none = Run.of("give 1");
        none.refuses("outputOf 0 6", Check.INVALID).refuses("outputOf -1 0", Check.INVALID)
                .refuses("pairOf 0 2", Check.INVALID).refuses("pairOf 3 0", Check.INVALID)
                .refuses("mended -1", Check.INVALID).refuses("errors 4", Check.INVALID)
                .refuses("fault 3", Check.INVALID);
    }

    private static void noStageWithANumber() {
        Check.sentence("If there is no stage with a certain number, this is INVALID_ARGUMENT.");
        for (int n = 2; n <= 10; n++) {
            Run run = Run.of("begin " + n);
            run.refuses("stage " + n + " 0 0", Check.INVALID).refuses("stageOf " + n + " 0", Check.INVALID);
            run.due("stage " + (n - 1) + " 0 0", 0).due("stageOf " + (n - 1) + " 0", 0);
        }
        Run less = Run.of("begin 10", "stage 9 1 1", "begin 9");
        less.refuses("stage 9 1 1", Check.INVALID).refuses("stageOf 9 1", Check.INVALID);
        less.and("undo").due("stageOf 9 1", 1);
    }

    private static void constants() {
        Check.sentence("`INVALID_ARGUMENT = -2000001`: An argument is out of its range, or there is no such stage.");
        Check.due("constant", ChargeLines.INVALID_ARGUMENT, -2000001);
        Run.of().due("begin 11", -2000001).due("stage 4 0 0", -2000001);
        Check.sentence("`NOT_POSSIBLE = -2000002`: The call is not possible in the present state.");
        Check.due("constant", ChargeLines.NOT_POSSIBLE, -2000002);
        Run.of().due("undo", -2000002);
        Check.sentence("`LIMIT_REACHED = -2000003`: A fixed limit has been reached.");
        Check.due("constant", ChargeLines.LIMIT_REACHED, -2000003);
        Run.of().idles(999).due("give 0", -2000003);
        Check.sentence("`NOT_FOUND = -2000004`: There is no such value.");
        Check.due("constant", ChargeLines.NOT_FOUND, -2000004);
        Run.of().due("mended 0", -2000004);
    }

    private static void promise13EmptyLine() {
        Check.sentence("Tells what a single sample makes of an empty line with these stages, followed by samples that "
                + "are 0, without references.");
        Run full = Run.of("begin 2", "set 1 1").times(20, "give 10000");
        full.due("echo 0 1", 0).due("echo 0 40", 0).due("echo 3 2", 3).due("echo 3 1", 0).due("echo 3 3", 0);
        full.and("begin 2").due("echo 3 2", 3);
        // 300 and 90 of 1000 stay behind in the last stage.
        Run stays = full.and("stage 1 300 0");
        stays.due("echo 1000 2", 700).due("echo 1000 3", 210).due("echo 1 2", 1).due("echo 1 3", 0);
        Run.of().idles(999).due("echo 10000 4", 10000);
    }

    private static void promise13Later() {
        Check.sentence("- `after`: 1 to 40: by how many hand-overs later");
        for (int n = 2; n <= 10; n++) {
            Run run = Run.of("begin " + n);
            for (int after = 1; after <= 40; after++) {
                run.due("echo 10000 " + after, after == n ? 10000 : 0);
            }
        }
        Run slow = Run.of("begin 10", "set 0 100000");
        for (int stage = 0; stage < 10; stage++) {
            slow = slow.and("stage " + stage + " 300 0");
        }
        int all = 0;
        for (int after = 1; after <= 40; after++) {
            all += slow.answer("echo 10000 " + after);
        }
        Check.due("all comes out at last", all, 10000);
        slow.due("echo 10000 9", 0).due("echo 10000 40", 0).due("echo 10000 27", 0).due("echo 10000 10", 283);
        Check.holds("what stayed comes at last", slow.answer("echo 10000 26") > 0);
    }

    private static void promise13Capacity() {
        Check.sentence("Returns the output of this hand-over; INVALID_ARGUMENT if an argument is out of range.");
        Run.of("set 0 9999").due("echo 9998 4", 9998).due("echo 9999 4", 9999).due("echo 10000 4", 9999);
        Run.of("set 0 1000").due("echo 1000 4", 1000).due("echo 1001 4", 1000).due("echo 10000 4", 1000)
                .due("echo 0 4", 0);
        Run.of("set 0 10000").due("echo 10000 4", 10000);
    }

    private static void promise13Range() {
        Check.sentence("- `sample`: 0 to 10000");
        Run run = Run.of("set 1 2").times(9, "give 55");
        run.refuses("echo -1 1", Check.INVALID).refuses("echo 10001 1", Check.INVALID)
                .refuses("echo least 1", Check.INVALID).refuses("echo most 1", Check.INVALID);
        Check.sentence("- `after`: 1 to 40: by how many hand-overs later");
        run.refuses("echo 5 0", Check.INVALID).refuses("echo 5 41", Check.INVALID).refuses("echo 5 -1", Check.INVALID)
                .refuses("echo 5 least", Check.INVALID).refuses("echo 5 most", Check.INVALID);
        run.due("echo 0 1", 0).due("echo 10000 40", 0).due("echo 0 40", 0).due("echo 10000 1", 0);
    }

    private static void promise14Empty() {
        Check.sentence("`int emptyAfter()`: Tells behind how many hand-overs with samples that are 0, without "
                + "references, all stages would be empty.");
        Run.of().due("emptyAfter", 0);
        Run.of("idle 40").due("emptyAfter", 0);
        Run.of("give 10000", "begin 4").due("emptyAfter", 0);
        Run.of("give 10000", "undo").due("emptyAfter", 0);
        Run.of("give 0").due("emptyAfter", 0).and("give 1").due("emptyAfter", 4);
    }

    private static void promise14OfStages() {
        Check.sentence("all stages would be empty.");
        for (int n = 2; n <= 10; n++) {
            Run run = Run.of("begin " + n, "give 1");
            for (int left = n; left >= 0; left--) {
                run.due("emptyAfter", left);
                run = run.and("give 0");
            }
        }
        // 3 in the last stage moves whole, as nothing of it stays; of 4 one stays.
        Run last = Run.of("begin 2", "stage 1 300 0");
        last.and("give 3", "give 0").due("emptyAfter", 1);
        last.and("give 4", "give 0").due("emptyAfter", 2);
    }

    private static void promise14Most() {
        Check.sentence("Returns how many, 0 to 400; NOT_FOUND if they are not by then.");
        // However full a line is, it is empty long before 400.
        Run slow = Run.of("begin 10", "set 0 100000");
        for (int stage = 0; stage < 10; stage++) {
            slow = slow.and("stage " + stage + " 300 0");
        }
        slow = slow.times(40, "give 10000");
        int many = slow.answer("emptyAfter");
        Check.holds("within 400: " + many, many > 10 && many < 400);
        slow.idles(many - 1).due("emptyAfter", 1);
        Check.holds("not yet empty", slow.idles(many - 1).answer("account 4") > 0);
        slow.idles(many).due("emptyAfter", 0).due("account 4", 0);
    }

    private static void promise14WithoutReferences() {
        Check.sentence("Tells behind how many hand-overs with samples that are 0, without references, all stages would "
                + "be empty.");
        Run.of("set 1 1", "give 0").due("emptyAfter", 3).due("count 6", 1);
        Run.of("set 1 1").due("emptyAfter", 0);
        // What is spilled by the next hand-over is not in a stage then.
        Run spilled = Run.of("begin 2", "stage 1 300 0", "give 10000", "give 0", "set 0 1000");
        spilled.due("emptyAfter", 7).and("give 0").due("stageOf 1 0", 1000).due("emptyAfter", 6);
        Run.of().times(9, "give 77").refuses("outputOf 16 0", Check.NOT_FOUND).due("emptyAfter", 4);
    }

    private static void promise15Lowest() {
        Check.sentence("- `what`: 0: the stage, of several the lowest; 1: that output");
        Run.of().due("worn 0", 0).due("worn 1", 10000);
        Run.of("begin 2").due("worn 0", 0).due("worn 1", 10000);
        Run.of("begin 10").due("worn 0", 0).due("worn 1", 10000);
        Run.of("stage 1 0 300", "stage 2 0 300").due("worn 0", 1).due("worn 1", 7000);
        Run.of("stage 0 10 0", "stage 3 10 0").due("worn 0", 0).due("worn 1", 9900);
        Run.of("stage 2 0 300", "stage 3 0 299").due("worn 0", 2).due("worn 1", 7010);
        Run.of("stage 2 0 299", "stage 3 0 300").due("worn 0", 3).due("worn 1", 7010);
        // What leaks and what stays are lost alike.
        Run.of("stage 1 0 100", "stage 2 100 0").due("worn 0", 1).due("worn 1", 9000);
    }

    private static void promise15Last() {
        Check.sentence("Finds the stage that has worn most: without the shares of which the output of echo(10000, n) "
                + "would be greatest");
        for (int n = 2; n <= 10; n++) {
            Run run = Run.of("begin " + n);
            run.and("stage " + (n - 1) + " 0 1").due("worn 0", n - 1).due("worn 1", 10000);
            run.and("stage 0 1 0").due("worn 0", 0).due("worn 1", 10000);
            run.and("stage " + (n - 1) + " 300 0", "begin 2", "begin " + n).due("worn 0", n == 2 ? 1 : 0);
        }
        // One of 1000 leaks, but nothing of 999: so it is 999 without any one of the stages.
        Run.of("set 0 1000", "stage 3 0 1", "stage 2 0 1").due("worn 0", 0).due("worn 1", 999);
    }

    private static void promise15ByTheNumberOfStages() {
        Check.sentence("(n being how many stages there are).");
        Run ten = Run.of("begin 10");
        for (int stage = 0; stage < 10; stage++) {
            ten = ten.and("stage " + stage + " 300 300");
        }
        // Without one stage there are nine by which it falls: 4900, 2401, 1177, 577, 283, 140, 69, 35, 18.
        ten.due("worn 1", 18).due("worn 0", 0);
        ten.and("begin 2").due("worn 1", 4900).due("worn 0", 0);
        ten.and("begin 3").due("worn 1", 2401);
        ten.and("begin 2", "give 9999", "set 1 1", "give 9999").due("worn 1", 4900);
    }

    private static void promise15Refused() {
        Check.sentence("Returns the number; INVALID_ARGUMENT if what is out of range.");
        Run.of("stage 1 9 9", "give 5").refuses("worn -1", Check.INVALID).refuses("worn 2", Check.INVALID)
                .refuses("worn least", Check.INVALID).refuses("worn most", Check.INVALID)
                .due("worn 0", 1).due("worn 1", 10000);
    }

    private static void promise16Greatest() {
        Check.sentence("Returns the sample, 0 to 10000.");
        Run.of().due("safe", 10000);
        Run.of("set 0 100000").due("safe", 10000);
        Run.of("set 0 10000").due("safe", 10000);
        Run.of("set 0 9999").due("safe", 9999);
        Run.of("set 0 1000").due("safe", 1000);
        // As little as it can be: of 1000 in a stage 300 stay.
        Run least = Run.of("begin 10", "set 0 1000");
        for (int stage = 0; stage < 10; stage++) {
            least = least.and("stage " + stage + " 300 0");
        }
        least.due("safe", 700);
    }

    private static void promise16Capacity() {
        Check.sentence("`int safe()`: Finds the greatest sample of which nothing would be spilled,");
        Run stays = Run.of("stage 0 300 0");
        // 10000 makes 14285 in the stage in the end.
        stays.and("set 0 14285").due("safe", 10000);
        stays.and("set 0 14284").due("safe", 9999);
        Run two = Run.of("begin 2", "set 0 1000", "stage 1 300 0").due("safe", 700);
        two.times(41, "give 700").due("account 3", 0);
        // 701, 911, 974, 993, 998 and 1000 are held; from the seventh one on, one is spilled each time.
        two.times(41, "give 701").due("account 3", 34);
    }

    private static void promise16EveryStage() {
        Check.sentence("of which nothing would be spilled, if the line was empty,");
        for (int n = 2; n <= 10; n++) {
            for (int stage = 0; stage < n; stage++) {
                Run run = Run.of("begin " + n, "set 0 1000", "stage " + stage + " 300 0");
                run.due("safe", 700).and("set 0 1001").due("safe", 701);
            }
        }
        Run full = Run.of("set 0 1000").times(9, "give 10000");
        full.due("safe", 1000).and("stage 0 300 0").due("safe", 700);
    }

    private static void promise16FortyTimes() {
        Check.sentence("and this sample was given again and again, 40 times, without references.");
        // 9367 is spilled for the first time as it is given for the 28th time.
        Run late = Run.of("begin 10", "set 0 13380");
        int[] stays = {292, 296, 288, 287, 293, 291, 286, 294, 292, 300};
        for (int stage = 0; stage < 10; stage++) {
            late = late.and("stage " + stage + " " + stays[stage] + " 0");
        }
        late.due("safe", 9366);
        Run again = late.and("begin 10");
        again.times(40, "give 9366").due("account 3", 0);
        again.times(27, "give 9367").due("account 3", 0);
        Check.holds("spilled", again.times(28, "give 9367").answer("account 3") > 0);
    }

    private static void promise16WithoutReferences() {
        Check.sentence("40 times, without references.");
        Run.of("set 0 1000", "set 1 1").due("safe", 1000);
        Run.of("set 0 5000", "set 1 1", "set 2 10000", "give 1").due("safe", 5000);
        Run.of().idles(999).and("set 0 1000").due("safe", 1000);
    }

    private static void promise17AtFirst() {
        Check.sentence("- `what`: 0: stages; 1: hand-overs; 2: outputs that are kept; 3: references that were handed over "
                + "since the line began; 4: pairs that are known; 5: the reference whose turn is next; 6: 1 if the next "
                + "hand-over is for a reference, otherwise 0; 7: states in the history; 8: the length of the text; "
                + "20 to 24: the settings 0 to 4");
        int[] first = {4, 0, 0, 0, 0, 0, 0, 0, 0};
        for (int what = 0; what <= 8; what++) {
            Run.of().due("count " + what, first[what]);
        }
        Run most = Run.of("begin 10", "set 1 1", "text ;").times(59, "type 59").times(12, "idle 40").and("idle 19");
        int[] due = {10, 998, 16, 499, 3, 1, 1, 4, 60};
        for (int what = 0; what <= 8; what++) {
            most.due("count " + what, due[what]);
        }
        most.and("set 1 0", "give 3").due("count 1", 999);
    }

    private static void promise17Kept() {
        Check.sentence("2: outputs that are kept; 3: references that were handed over since the line began; 4: pairs "
                + "that are known; 5: the reference whose turn is next;");
        Run run = Run.of("begin 3", "set 1 1");
        int[] kept = {0, 0, 1, 3, 5};
        int[] pairs = {0, 0, 1, 2, 3};
        for (int given = 0; given < 5; given++) {
            run.due("count 2", kept[given]).due("count 3", given).due("count 4", pairs[given])
                    .due("count 5", given % 3);
            run = run.and("give 1");
        }
        run.due("count 4", 3).and("begin 3").due("count 4", 0).due("count 3", 0);
        run.and("begin 3", "undo").due("count 4", 3).due("count 3", 5);
    }

    private static void promise17NextForAReference() {
        Check.sentence("6: 1 if the next hand-over is for a reference, otherwise 0;");
        Run.of().due("count 6", 0).and("set 1 1").due("count 6", 1).and("set 1 12").due("count 6", 1);
        Run.of("idle 11").and("set 1 12").due("count 6", 0).and("give 0").due("count 6", 1).and("set 1 0")
                .due("count 6", 0);
        Run.of("set 1 2", "give 0").due("count 6", 1).and("undo").due("count 6", 1);
    }

    private static void promise17Settings() {
        Check.sentence("20 to 24: the settings 0 to 4");
        Run set = Run.of("set 0 100000", "set 1 12", "set 2 1", "set 3 10000", "set 4 2");
        set.due("count 20", 100000).due("count 21", 12).due("count 22", 1).due("count 23", 10000).due("count 24", 2);
    }

    private static void promise17Refused() {
        Check.sentence("Returns the number; INVALID_ARGUMENT if what is out of range.");
        Run run = Run.of("set 1 2", "give 5");
        String[] wrong = {"-1", "9", "10", "19", "25", "-20", "least", "most"};
        for (String what : wrong) {
            run.refuses("count " + what, Check.INVALID);
        }
    }

    private static void promise18Empty() {
        Check.sentence("Returns the number of states that are left in the history; NOT_POSSIBLE if it is empty.");
        Run.of().refuses("undo", Check.NOT_POSSIBLE);
        Run.of("text s5;").refuses("undo", Check.NOT_POSSIBLE);
        Run.of("give 5", "undo").refuses("undo", Check.NOT_POSSIBLE);
        Run.of().times(7, "give 5").times(4, "undo").refuses("undo", Check.NOT_POSSIBLE).due("count 1", 3)
                .due("give 6", 1);
    }

    private static void promise18Left() {
        Check.sentence("Returns the number of states that are left in the history;");
        for (int changes = 1; changes <= 6; changes++) {
            Run run = Run.of().times(changes, "give 5");
            for (int left = Math.min(changes, 4) - 1; left >= 0; left--) {
                run.due("undo", left);
                run = run.and("undo").due("count 7", left);
            }
            run.due("undo", Check.NOT_POSSIBLE);
        }
    }

    private static void promise18Restores() {
        Check.sentence("`int undo()`: Restores the latest state of the history, which is removed from it.");
        Run.of("give 1", "undo").same(Run.of(), "as new");
        Run.of("begin 10", "stage 9 300 300", "set 1 12", "idle 40", "undo", "undo", "undo", "undo")
                .same(Run.of(), "as new");
        Run two = Run.of("give 1", "begin 2");
        two.and("stage 0 1 1", "undo").same(two, "as before the change");
        two.and("idle 40", "undo", "set 4 1", "undo").same(two, "as before the changes");
        // The state that was restored is a state that changes record again.
        two.and("undo", "give 2").same(Run.of("give 1", "give 2"), "as if begin had not been");
        Run limit = Run.of().idles(999);
        limit.and("undo").due("count 1", 960).due("idle 39", 39).due("idle 40", Check.LIMIT);
    }
}
