import java.io.IOException;

/** The edges of "The line", "References", "Settings" and of the promises 1 to 6: a test for each sentence. */
public final class LineEdgesTest {
    public static void main(String[] args) throws IOException {
        usedForManyCalls();
        theLine();
        beginning();
        references();
        settings();
        promises1To4();
        promises5And6();
        Check.end(args);
    }

    private static void theLine() {
        shareIsRoundedDown();
        stagesThereAre();
        sharesOfAStage();
        samplesOfAHandOver();
        partsOfAStage();
        whatComesFromTheStageAhead();
        whatMovesOutOfTheLastStage();
        aboveTheCapacity();
        aboveTheCapacityLater();
        aboveTheFirstCapacity();
        aboveAsMuchAsCanBe();
        capacityMadeLess();
        numbersFromNought();
        outputsThatBelongToSamples();
    }

    private static void beginning() {
        aLineBeginsEmpty();
        nothingIsKnownThen();
        accountsBeginAnew();
    }

    private static void references() {
        threeReferences();
        settingOneIsNought();
        numbersThatCanBeDivided();
        inTurnAndRoundAgain();
        oneMoreHandOver();
        pairOfAnOutput();
        pairOfASpilledReference();
        pairTakesThePlace();
    }

    private static void settings() {
        rangesAndFirstValues();
    }

    private static void promises1To4() {
        promise1();
        promise2Answers();
        promise2Shares();
        promise2Turn();
        promise2Range();
        promise3Answers();
        promise3Range();
        promise4Answers();
        promise4Range();
    }

    private static void promises5And6() {
        promise5Answers();
        promise5Range();
        promise5Limit();
        promise5LimitOfReferences();
        promise6Samples();
        promise6Answers();
        promise6Range();
        promise6Limit();
        promise6LimitOfReferences();
    }

    private static void usedForManyCalls() {
        Check.sentence("An object is used for at most 512 calls after it has been made; what later calls answer is free.");
        // The call that is asked is the 512th one.
        Run.of().times(501, "give 10000").times(10, "?begin 11").due("count 1", 501);
        Run.of().times(511, "give 3").due("give 3", 1);
        Run.of().times(11, "idle 40").times(500, "set 1 0").due("account 1", 0);
    }

    private static void shareIsRoundedDown() {
        Check.sentence("A share in thousandths of a charge is the charge times it, divided by 1000, rounded down.");
        Run stays = Run.of("stage 0 1 0");
        stays.and("give 999").due("stageOf 0 3", 0).due("stageOf 0 5", 999);
        stays.and("give 1000").due("stageOf 0 3", 1).due("stageOf 0 5", 999);
        stays.and("give 1999").due("stageOf 0 3", 1);
        stays.and("give 2000").due("stageOf 0 3", 2);
        Run leaks = Run.of("stage 0 0 1");
        leaks.and("give 999").due("stageOf 0 4", 0).due("stageOf 0 5", 999);
        leaks.and("give 1000").due("stageOf 0 4", 1).due("stageOf 0 5", 999);
        Run most = Run.of("stage 0 300 0");
        most.and("give 3").due("stageOf 0 3", 0);
        most.and("give 4").due("stageOf 0 3", 1);
    }

    private static void stagesThereAre() {
        Check.sentence("There are n stages (2 to 10; 4 at first), numbered from 0.");
        Run.of().due("count 0", 4).due("stageOf 0 0", 0).due("stageOf 3 0", 0)
                .due("stageOf 4 0", Check.INVALID).due("stageOf -1 0", Check.INVALID);
        Run.of("begin 2").due("count 0", 2).due("stageOf 1 0", 0).due("stageOf 2 0", Check.INVALID);
        Run.of("begin 10").due("count 0", 10).due("stageOf 9 0", 0).due("stageOf 10 0", Check.INVALID);
    }

    private static void sharesOfAStage() {
        Check.sentence("A stage has a charge (0 at first), and two shares in thousandths (0 to 300; 0 at first): "
                + "what stays, and what leaks.");
        for (int stage = 0; stage < 4; stage++) {
            for (int what = 0; what < 6; what++) {
                Run.of().due("stageOf " + stage + " " + what, 0);
            }
        }
        Run.of("stage 0 300 300", "give 10000").due("stageOf 0 1", 300).due("stageOf 0 2", 300)
                .due("stageOf 0 3", 3000).due("stageOf 0 4", 2100).due("stageOf 0 5", 4900);
        Run.of("stage 0 0 0", "give 10000").due("stageOf 0 3", 0).due("stageOf 0 4", 0).due("stageOf 0 5", 10000);
    }

    private static void samplesOfAHandOver() {
        Check.sentence("By a hand-over with a sample (0 to 10000) each stage is parted:");
        Run.of("give 0").due("stageOf 0 0", 0).due("count 1", 1).due("account 0", 0);
        Run.of("give 1").due("stageOf 0 0", 1).due("account 0", 1);
        Run.of("give 10000").due("stageOf 0 0", 10000).due("account 0", 10000);
    }

    private static void partsOfAStage() {
        Check.sentence("its share that stays is what stays of its charge; the rest moves, "
                + "and loses its share that leaks of this rest.");
        // Of 1000 one stays, and of the rest, 999, nothing leaks; 1001 is one more.
        Run.of("stage 0 1 1", "give 1000").due("stageOf 0 3", 1).due("stageOf 0 4", 0).due("stageOf 0 5", 999);
        Run.of("stage 0 1 1", "give 1001").due("stageOf 0 3", 1).due("stageOf 0 4", 1).due("stageOf 0 5", 999);
        Run.of("stage 0 300 300", "give 1").due("stageOf 0 3", 0).due("stageOf 0 4", 0).due("stageOf 0 5", 1);
        Run.of("stage 0 300 300", "give 0").due("stageOf 0 3", 0).due("stageOf 0 4", 0).due("stageOf 0 5", 0);
    }

    private static void whatComesFromTheStageAhead() {
        Check.sentence("Then each stage has what stayed in it, and what came from the stage ahead of it; "
                + "the first one has what stayed, and the sample.");
        Run first = Run.of("begin 2", "stage 0 100 0", "stage 1 200 0", "give 1000", "give 50");
        first.due("stageOf 0 0", 150).due("stageOf 1 0", 900);
        first.and("give 0").due("stageOf 0 0", 15).due("stageOf 1 0", 180 + 135).due("account 1", 720);
        Run ten = Run.of("begin 10", "give 10").idles(9);
        ten.due("stageOf 9 0", 10).due("account 1", 0).due("stageOf 8 0", 0);
        ten.and("give 0").due("stageOf 9 0", 0).due("account 1", 10);
    }

    private static void whatMovesOutOfTheLastStage() {
        Check.sentence("What moves out of the last stage is the output.");
        Run two = Run.of("begin 2", "stage 1 300 300", "give 10000", "give 0");
        two.due("stageOf 1 5", 4900).due("account 1", 0).due("count 2", 0);
        two.and("give 0").due("outputOf 0 2", 4900).due("account 1", 4900).due("stageOf 1 0", 3000);
        // The output is not held by the capacity: it is in no stage any more.
        two.and("set 0 1000", "give 0").due("outputOf 0 2", 4900).due("stageOf 1 0", 1000).due("account 3", 2000);
        Run none = Run.of("begin 10", "give 10000").idles(9);
        none.due("account 1", 0).and("give 0").due("account 1", 10000).due("outputOf 0 2", 10000);
        Run nothing = Run.of("begin 2").idles(3);
        nothing.due("outputOf 0 2", 0).due("account 1", 0);
    }

    private static void aboveTheCapacity() {
        Check.sentence("What a stage has above the capacity (setting 0) is spilled.");
        Run thousand = Run.of("set 0 1000");
        thousand.and("give 999").due("stageOf 0 0", 999).due("account 3", 0);
        thousand.and("give 1000").due("stageOf 0 0", 1000).due("account 3", 0);
        thousand.and("give 1001").due("stageOf 0 0", 1000).due("account 3", 1);
        thousand.and("give 10000").due("stageOf 0 0", 1000).due("account 3", 9000).due("account 0", 10000);
        // What stayed counts, too: 300 are in the stage already.
        Run stayed = thousand.and("stage 0 300 0", "give 1000");
        stayed.and("give 700").due("stageOf 0 0", 1000).due("account 3", 0);
        stayed.and("give 701").due("stageOf 0 0", 1000).due("account 3", 1);
    }

    private static void aboveTheCapacityLater() {
        Check.sentence("What a stage has above the capacity (setting 0) is spilled.");
        Run last = Run.of("begin 2", "set 0 1000", "stage 1 300 0", "give 1000");
        last.and("give 700", "give 0").due("stageOf 1 0", 1000).due("account 3", 0);
        last.and("give 701", "give 0").due("stageOf 1 0", 1000).due("account 3", 1);
        Run middle = Run.of("begin 3", "set 0 1000", "stage 1 300 0", "give 1000");
        middle.and("give 700", "give 0").due("account 3", 0);
        middle.and("give 701", "give 0").due("account 3", 1);
    }

    /** Three stages with 14285 each are let go one behind the other, so that 22855 come together in the last one. */
    private static void aboveTheFirstCapacity() {
        Check.sentence("What a stage has above the capacity (setting 0) is spilled.");
        Run three = Run.of("begin 3", "stage 0 300 0", "stage 1 300 0", "stage 2 300 0").times(40, "give 10000");
        three.due("stageOf 0 0", 14285).due("stageOf 1 0", 14285).due("stageOf 2 0", 14285).due("account 3", 0);
        letGo(three, 20000).due("stageOf 2 0", 20000).due("account 3", 2855);
        letGo(three, 22854).due("stageOf 2 0", 22854).due("account 3", 1);
        letGo(three, 22855).due("stageOf 2 0", 22855).due("account 3", 0);
        letGo(three, 100000).due("stageOf 2 0", 22855).due("account 3", 0);
    }

    /**
     * Ten full stages are let go one behind the other. More than some 52857 can never come together in a stage (each one
     * adds three sevenths of 10000 to the 14285 of the first), so that a capacity of 100000 never spills.
     */
    private static void aboveAsMuchAsCanBe() {
        Check.sentence("0 capacity (1000 to 100000; 20000)");
        Run ten = Run.of("begin 10", "set 0 100000");
        for (int stage = 0; stage < 10; stage++) {
            ten = ten.and("stage " + stage + " 300 0");
        }
        ten = ten.times(60, "give 10000").due("stageOf 9 0", 14285);
        Run most = ten;
        Run held = ten.and("set 0 52850");
        Run spilled = ten.and("set 0 52849");
        for (int stage = 0; stage < 9; stage++) {
            String[] letGo = {"stage " + stage + " 0 0", "give 0"};
            most = most.and(letGo);
            held = held.and(letGo);
            spilled = spilled.and(letGo);
        }
        most.due("stageOf 9 0", 52850).due("account 3", 0);
        held.due("stageOf 9 0", 52850).due("account 3", 0);
        spilled.due("stageOf 9 0", 52849).due("account 3", 1);
        most.and("stage 9 0 300", "give 0").due("outputOf 0 2", 36995).due("outputOf 0 5", 26995);
    }

    private static Run letGo(Run three, int capacity) {
        return three.and("set 0 " + capacity, "stage 0 0 0", "give 0", "stage 1 0 0", "give 0");
    }

    private static void capacityMadeLess() {
        Check.sentence("What a stage has above the capacity (setting 0) is spilled.");
        // It is spilled by a hand-over, not by the setting.
        Run less = Run.of("stage 0 300 0", "give 9000", "set 0 1000");
        less.due("stageOf 0 0", 9000).due("account 3", 0).due("account 4", 9000);
        less.and("give 0").due("stageOf 0 0", 1000).due("stageOf 1 0", 1000).due("account 3", 1700 + 5300);
    }

    private static void numbersFromNought() {
        Check.sentence("Hand-overs are numbered from 0 on; the sample and the output of a hand-over have its number.");
        Run.of("begin 2", "give 5", "give 6", "give 7").due("count 1", 3).due("outputOf 0 0", 2).due("outputOf 0 1", 5);
        Run last = Run.of("begin 2").idles(998).and("give 9");
        last.due("count 1", 999).due("outputOf 0 0", 998).due("outputOf 15 0", 983);
    }

    private static void outputsThatBelongToSamples() {
        Check.sentence("The output of a hand-over belongs to the sample that is n numbers earlier "
                + "(if there is one since the line began).");
        for (int n = 2; n <= 10; n++) {
            Run none = Run.of("give 1", "begin " + n, "give 77").idles(n - 1);
            none.due("count 2", 0).due("outputOf 0 0", Check.NOT_FOUND).due("outputOf 0 2", Check.NOT_FOUND);
            Run one = none.and("give 0");
            one.due("count 2", 1).due("outputOf 0 0", n).due("outputOf 0 1", 77).due("outputOf 0 2", 77)
                    .due("outputOf 1 0", Check.NOT_FOUND);
        }
    }

    private static Run busy() {
        return Run.of("begin 3", "stage 0 100 30", "stage 2 7 200", "set 0 5000", "set 1 2", "set 2 800", "give 9999",
                "give 1234").times(20, "give 4321");
    }

    private static void aLineBeginsEmpty() {
        Check.sentence("A line begins with empty stages, and hand-overs from 0 on;");
        Run again = busy().and("begin 3");
        for (int stage = 0; stage < 3; stage++) {
            again.due("stageOf " + stage + " 0", 0).due("stageOf " + stage + " 5", 0);
        }
        again.due("count 1", 0).due("emptyAfter", 0).due("begin 3", 0);
        again.and("give 1", "give 2").due("outputOf 0 0", 3).due("outputOf 0 1", 800);
    }

    private static void nothingIsKnownThen() {
        Check.sentence("nothing is known then of outputs and pairs.");
        busy().due("count 2", 16).due("count 4", 3);
        Run again = busy().and("begin 3");
        again.due("count 2", 0).due("outputOf 0 0", Check.NOT_FOUND).due("errors 0", 0)
                .due("errors 1", Check.NOT_FOUND);
        again.due("count 4", 0).due("pairOf 0 0", Check.NOT_FOUND).due("pairOf 1 1", Check.NOT_FOUND)
                .due("pairOf 2 0", Check.NOT_FOUND).due("mended 4000", Check.NOT_FOUND);
        // Four hand-overs: of the outputs only the one with the number 3 belongs to a sample.
        again.and("give 1", "give 2").due("count 2", 1).due("outputOf 1 0", Check.NOT_FOUND).due("count 4", 1);
        // A line is as a new one with the same settings and shares is.
        Run fresh = Run.of("stage 0 100 30", "stage 2 7 200", "set 0 5000", "set 1 2", "set 2 800", "begin 3");
        Check.holds(Check.tested() + " | as a new line", again.looks().equals(fresh.looks()));
        String[] more = {"give 700", "give 800", "give 900"};
        Check.holds(Check.tested() + " | as a new line later", again.and(more).looks().equals(fresh.and(more).looks()));
    }

    private static void accountsBeginAnew() {
        Check.sentence("Accounts of charge begin anew, too.");
        Run again = busy().and("begin 3");
        for (int what = 0; what < 5; what++) {
            Check.holds("account " + what + " before", busy().answer("account " + what) > 0);
            again.due("account " + what, 0);
        }
        again.and("set 1 0", "give 5").due("account 0", 5).due("account 4", 5).due("account 1", 0);
    }

    private static void threeReferences() {
        Check.sentence("There are 3 references, 0 to 2, each with a size (setting 2, 3 and 4).");
        Run each = Run.of("begin 2", "set 1 1", "set 2 1", "set 3 10000", "set 4 77", "give 3", "give 4", "give 5");
        each.due("outputOf 3 1", 1).due("outputOf 2 1", 3).due("outputOf 1 1", 10000).due("outputOf 0 1", 4);
        each.and("give 6").due("outputOf 1 1", 77).due("pairOf 2 1", 77).due("pairOf 0 1", 1).due("pairOf 1 1", 10000);
        each.due("pairOf 3 0", Check.INVALID).due("pairOf -1 0", Check.INVALID).due("count 5", 0);
    }

    private static void settingOneIsNought() {
        Check.sentence("If setting 1 is not 0,");
        Run.of().due("count 6", 0).due("give 5", 1).due("idle 40", 40);
        Run none = Run.of("begin 2").idles(40);
        none.due("count 3", 0).due("count 4", 0).due("outputOf 0 4", 0).due("count 6", 0);
        Run off = Run.of("set 1 1", "give 5", "set 1 0");
        off.due("count 6", 0).due("give 5", 1).due("count 5", 1);
    }

    private static void numbersThatCanBeDivided() {
        Check.sentence("each hand-over whose number can be divided by it is for a reference:");
        for (int period = 1; period <= 12; period++) {
            Run run = Run.of("set 1 " + period);
            int number = 0;
            for (int i = 0; i < 30; i++) {
                boolean isFor = number % period == 0;
                run.due("count 6", isFor ? 1 : 0).due("give 5", isFor ? 2 : 1);
                run = run.and("give 5");
                number += isFor ? 2 : 1;
                run.due("count 1", number);
            }
        }
        Run eleven = Run.of().idles(11);
        eleven.and("set 1 12").due("count 6", 0);
        eleven.and("set 1 11").due("count 6", 1);
        eleven.and("give 0", "set 1 12").due("count 6", 1);
    }

    private static void inTurnAndRoundAgain() {
        Check.sentence("the references 0, 1, 2, 0 and so on in turn.");
        Run run = Run.of("begin 2", "set 1 1");
        int[] sizes = {1000, 4000, 9000};
        for (int given = 0; given < 20; given++) {
            run.due("count 5", given % 3).due("count 3", given);
            run = run.and("give 5");
            if (given > 0) {
                run.due("outputOf 1 1", sizes[(given - 1) % 3]).due("outputOf 1 4", 1).due("outputOf 0 1", 5)
                        .due("outputOf 0 4", 0);
            }
        }
        Run undone = Run.of("set 1 1", "give 5", "give 5", "give 5").due("count 5", 0).and("undo");
        undone.due("count 5", 2).due("count 3", 2);
    }

    private static void oneMoreHandOver() {
        Check.sentence("When a sample is given and the next hand-over is for a reference, the reference is handed over "
                + "first, and then the sample (one more hand-over, whether its number is for a reference or not).");
        // The number 1 would be for a reference, too, but is the sample's.
        Run each = Run.of("begin 2", "set 1 1", "give 70").due("count 1", 2).due("count 3", 1).due("account 0", 1070);
        each.due("stageOf 0 0", 70).due("stageOf 1 0", 1000).due("count 6", 1);
        each.and("give 80").due("outputOf 0 1", 70).due("outputOf 0 4", 0).due("outputOf 1 1", 1000)
                .due("outputOf 1 4", 1);
        Run second = Run.of("begin 2", "set 1 2", "give 70").due("count 1", 2).due("count 6", 1);
        second.and("give 80").due("count 1", 4).due("count 3", 2);
        Run third = Run.of("begin 2", "set 1 3", "give 70").due("count 6", 0);
        third.and("give 80").due("count 1", 3).due("count 3", 1);
    }

    private static void pairOfAnOutput() {
        Check.sentence("When an output comes that belongs to a reference, the pair of this reference is the output and "
                + "the size that was handed over;");
        for (int n = 2; n <= 10; n++) {
            Run none = Run.of("begin " + n, "set 1 12", "stage 0 0 100", "give 7", "set 2 5").idles(n - 2);
            none.due("count 1", n).due("pairOf 0 0", Check.NOT_FOUND).due("count 4", 0);
            Run one = none.and("give 0");
            one.due("pairOf 0 0", 900).due("pairOf 0 1", 1000).due("count 4", 1)
                    .due("pairOf 1 0", Check.NOT_FOUND);
            one.and("give 0").due("pairOf 0 0", 900);
        }
        Run least = Run.of("begin 2", "set 1 1", "set 2 1", "stage 0 300 300", "stage 1 300 300", "idle 2");
        least.due("pairOf 0 0", 1).due("pairOf 0 1", 1);
    }

    private static void pairOfASpilledReference() {
        Check.sentence("the pair of this reference is the output and the size that was handed over;");
        Run spilled = Run.of("begin 2", "set 0 1000", "set 1 12", "set 2 10000", "idle 2");
        spilled.due("pairOf 0 0", 1000).due("pairOf 0 1", 10000).due("account 3", 9000).due("outputOf 0 1", 10000);
    }

    private static void pairTakesThePlace() {
        Check.sentence("it takes the place of the one that it had.");
        // The reference 0 has the numbers 0, 6 and 12, and comes out with 2, 8 and 14.
        Run before = Run.of("begin 2", "set 1 1", "give 1", "give 1", "give 1", "set 2 555", "give 1");
        before.due("count 1", 8).due("pairOf 0 0", 1000).due("pairOf 0 1", 1000).due("count 4", 3);
        Run after = before.and("give 1");
        after.due("pairOf 0 0", 555).due("pairOf 0 1", 555).due("count 4", 3).due("pairOf 1 0", 4000);
        after.and("undo").due("pairOf 0 0", 1000).due("pairOf 0 1", 1000);
    }

    private static void rangesAndFirstValues() {
        Check.sentence("The settings are (in parentheses: range; first value): 0 capacity (1000 to 100000; 20000), "
                + "1 (0 to 12; 0), 2, 3, 4 (1 to 10000; 1000, 4000, 9000).");
        int[] least = {1000, 0, 1, 1, 1};
        int[] most = {100000, 12, 10000, 10000, 10000};
        int[] first = {20000, 0, 1000, 4000, 9000};
        for (int what = 0; what < 5; what++) {
            Run run = Run.of().due("count 2" + what, first[what]);
            run.due("set " + what + " " + least[what], first[what]).due("set " + what + " " + most[what], first[what]);
            run.and("set " + what + " " + least[what]).due("count 2" + what, least[what]);
            run.and("set " + what + " " + most[what]).due("count 2" + what, most[what]);
            run.refuses("set " + what + " " + (least[what] - 1), Check.INVALID);
            run.refuses("set " + what + " " + (most[what] + 1), Check.INVALID);
        }
    }

    private static void promise1() {
        Check.sentence("`ChargeLines()`: Creates a line of four stages.");
        int[] due = {4, 0, 0, 0, 0, 0, 0, 0, 0};
        for (int what = 0; what < due.length; what++) {
            Run.of().due("count " + what, due[what]);
        }
        for (int what = 0; what < 5; what++) {
            Run.of().due("account " + what, 0);
        }
        Run.of().due("stageOf 3 5", 0).due("stageOf 4 5", Check.INVALID).due("outputOf 0 0", Check.NOT_FOUND)
                .due("pairOf 0 0", Check.NOT_FOUND).due("mended 0", Check.NOT_FOUND).due("errors 0", 0)
                .due("echo 10000 3", 0).due("echo 10000 4", 10000).due("emptyAfter", 0).due("safe", 10000)
                .due("undo", Check.NOT_POSSIBLE).due("clearText", 0).due("fault 0", Check.NOT_FOUND).due("play", 0);
    }

    private static void promise2Answers() {
        Check.sentence("Returns how many hand-overs there were; INVALID_ARGUMENT if stages is out of range.");
        Run.of().due("begin 4", 0);
        Run.of("give 0").due("begin 2", 1);
        Run.of("set 1 1", "give 0").due("begin 10", 2);
        Run.of().idles(999).due("begin 10", 999).and("begin 10").due("begin 10", 0);
    }

    private static void promise2Shares() {
        Check.sentence("Begins a line anew; shares of stages that there are now stay, stages beyond these have 0;");
        Run ten = Run.of("begin 10");
        for (int stage = 0; stage < 10; stage++) {
            ten = ten.and("stage " + stage + " " + (stage + 1) + " " + (300 - stage));
        }
        for (int first = 2; first <= 10; first++) {
            Run less = ten.and("begin " + first);
            Run more = less.and("begin 10");
            for (int stage = 0; stage < 10; stage++) {
                boolean stays = stage < first;
                less.due("stageOf " + stage + " 1", stays ? stage + 1 : Check.INVALID);
                more.due("stageOf " + stage + " 1", stays ? stage + 1 : 0);
                more.due("stageOf " + stage + " 2", stays ? 300 - stage : 0);
            }
            less.and("undo").due("stageOf 9 1", 10);
            more.and("undo", "undo").due("stageOf 9 2", 291);
        }
    }

    private static void promise2Turn() {
        Check.sentence("settings stay; the reference 0 has the next turn.");
        for (int given = 0; given < 5; given++) {
            Run again = Run.of("set 1 1", "set 2 22", "set 3 33").times(given, "give 9").and("begin 2");
            again.due("count 5", 0).due("count 6", 1).due("count 3", 0);
            again.and("idle 2").due("pairOf 0 1", 22).due("pairOf 1 1", Check.NOT_FOUND);
        }
        Run settings = Run.of("set 0 1000", "set 1 12", "set 2 1", "set 3 10000", "set 4 2", "begin 10");
        settings.due("count 20", 1000).due("count 21", 12).due("count 22", 1).due("count 23", 10000)
                .due("count 24", 2);
    }

    private static void promise2Range() {
        Check.sentence("- `stages`: 2 to 10");
        Run busy = busy();
        busy.refuses("begin 1", Check.INVALID).refuses("begin 11", Check.INVALID).refuses("begin 0", Check.INVALID)
                .refuses("begin -2", Check.INVALID).refuses("begin least", Check.INVALID)
                .refuses("begin most", Check.INVALID);
        busy.due("begin 2", 44).due("begin 10", 44);
    }

    private static void promise3Answers() {
        Check.sentence("Returns 1000 times what stayed, plus what leaked, as they were; "
                + "INVALID_ARGUMENT if an argument is out of range.");
        Run.of().due("stage 0 300 300", 0);
        Run.of("stage 3 300 300").due("stage 3 0 0", 300300).due("stage 0 1 1", 0);
        Run.of("stage 1 0 300").due("stage 1 0 0", 300);
        Run.of("stage 1 300 0").due("stage 1 0 0", 300000);
        Run.of("stage 1 1 2", "stage 1 3 4").due("stage 1 0 0", 3004).and("undo").due("stage 1 0 0", 1002);
    }

    private static void promise3Range() {
        Check.sentence("- `stays`: 0 to 300");
        Run busy = busy();
        busy.refuses("stage 0 -1 0", Check.INVALID).refuses("stage 0 301 0", Check.INVALID)
                .refuses("stage 2 least 0", Check.INVALID).refuses("stage 2 most 0", Check.INVALID);
        Check.sentence("- `leaks`: 0 to 300");
        busy.refuses("stage 0 0 -1", Check.INVALID).refuses("stage 0 0 301", Check.INVALID)
                .refuses("stage 2 0 least", Check.INVALID).refuses("stage 2 0 most", Check.INVALID);
        Check.sentence("- `stage`: number of the stage");
        busy.refuses("stage -1 0 0", Check.INVALID).refuses("stage 3 0 0", Check.INVALID)
                .refuses("stage least 0 0", Check.INVALID).refuses("stage most 0 0", Check.INVALID);
        busy.due("stage 0 0 0", 100030).due("stage 2 300 300", 7200).due("stage 1 300 300", 0);
    }

    private static void promise4Answers() {
        Check.sentence("Returns what it was; INVALID_ARGUMENT if an argument is out of range.");
        Run.of().due("set 0 1000", 20000);
        Run.of("set 0 1000").due("set 0 100000", 1000).and("set 0 100000").due("set 0 100000", 100000);
        Run.of("set 1 12").due("set 1 0", 12).and("set 1 0").due("set 1 1", 0);
        Run.of("set 4 1").due("set 4 10000", 1).due("set 3 1", 4000).due("set 2 1", 1000);
    }

    private static void promise4Range() {
        Check.sentence("- `what`: 0 to 4");
        Run busy = busy();
        busy.refuses("set -1 5000", Check.INVALID).refuses("set 5 5000", Check.INVALID)
                .refuses("set least 5000", Check.INVALID).refuses("set most 5000", Check.INVALID);
        Check.sentence("- `value`: a value in its range");
        for (int what = 0; what < 5; what++) {
            busy.refuses("set " + what + " least", Check.INVALID).refuses("set " + what + " most", Check.INVALID);
            busy.refuses("set " + what + " -1", Check.INVALID).refuses("set " + what + " 100001", Check.INVALID);
        }
    }

    private static void promise5Answers() {
        Check.sentence("Gives a sample (and the reference ahead of it, if that is due).");
        Run.of().due("give 0", 1).due("give 10000", 1);
        Run.of("set 1 12").due("give 0", 2).due("give 10000", 2).and("give 0").due("give 10000", 1);
        Run.of("set 1 1", "give 0").due("give 0", 2);
    }

    private static void promise5Range() {
        Check.sentence("Returns how many hand-overs it took; INVALID_ARGUMENT if sample is out of range;");
        Run busy = busy();
        busy.refuses("give -1", Check.INVALID).refuses("give 10001", Check.INVALID)
                .refuses("give least", Check.INVALID).refuses("give most", Check.INVALID);
        busy.due("give 0", 2).due("give 10000", 2);
    }

    private static void promise5Limit() {
        Check.sentence("LIMIT_REACHED if there would be more than 999 hand-overs.");
        Run last = Run.of().idles(998).due("give 7", 1).and("give 7");
        last.due("count 1", 999).refuses("give 7", Check.LIMIT).refuses("give 0", Check.LIMIT);
        last.refuses("give -1", Check.INVALID).refuses("give 10001", Check.INVALID);
        last.and("undo").due("give 7", 1);
        last.and("begin 4").due("give 7", 1);
    }

    private static void promise5LimitOfReferences() {
        Check.sentence("LIMIT_REACHED if there would be more than 999 hand-overs.");
        Run.of().idles(997).and("set 1 1").due("give 7", 2).and("give 7").due("count 1", 999)
                .refuses("give 7", Check.LIMIT);
        Run one = Run.of().idles(998);
        // 998 can be divided by 1 and 2, but not by 3 to 12.
        one.and("set 1 1").refuses("give 7", Check.LIMIT);
        one.and("set 1 2").refuses("give 7", Check.LIMIT);
        for (int period = 3; period <= 12; period++) {
            one.and("set 1 " + period).due("give 7", 1);
        }
        one.and("set 1 2", "set 1 0").due("give 7", 1);
    }

    private static void promise6Samples() {
        Check.sentence("`int idle(int many)`: Gives samples that are 0.");
        Run.of("give 9", "idle 1").same(Run.of("give 9", "give 0"), "one sample");
        Run two = Run.of("begin 2", "set 1 3", "give 9");
        Check.holds(Check.tested() + " | many samples", two.and("idle 40").looks()
                .equals(two.times(40, "give 0").looks()));
        two.and("idle 40").due("count 7", 4).and("undo").due("count 1", 2).due("count 7", 3);
    }

    private static void promise6Answers() {
        Check.sentence("Returns how many hand-overs they took; INVALID_ARGUMENT if many is out of range;");
        Run.of().due("idle 1", 1).due("idle 40", 40);
        Run.of("set 1 1").due("idle 1", 2).due("idle 40", 80);
        // References at 0, 12, 24, 36: the 40 samples end at 43.
        Run.of("set 1 12").due("idle 1", 2).due("idle 11", 12).due("idle 12", 14).due("idle 40", 44);
    }

    private static void promise6Range() {
        Check.sentence("- `many`: 1 to 40");
        Run busy = busy();
        busy.refuses("idle 0", Check.INVALID).refuses("idle 41", Check.INVALID).refuses("idle -1", Check.INVALID)
                .refuses("idle least", Check.INVALID).refuses("idle most", Check.INVALID);
        busy.due("idle 1", 2).due("idle 40", 80);
    }

    private static void promise6Limit() {
        Check.sentence("LIMIT_REACHED if there would be more than 999 hand-overs.");
        Run most = Run.of().idles(959).due("idle 40", 40).and("idle 40");
        most.due("count 1", 999).refuses("idle 1", Check.LIMIT).refuses("idle 40", Check.LIMIT);
        most.refuses("idle 0", Check.INVALID).refuses("idle 41", Check.INVALID);
        // None of them is given if one is too many.
        Run.of("give 9").idles(959).refuses("idle 40", Check.LIMIT).due("idle 39", 39);
    }

    private static void promise6LimitOfReferences() {
        Check.sentence("LIMIT_REACHED if there would be more than 999 hand-overs.");
        Run even = Run.of("set 1 1").times(12, "idle 40").due("count 1", 960);
        even.refuses("idle 20", Check.LIMIT).due("idle 19", 38);
        Run odd = Run.of().idles(961).and("set 1 1");
        odd.due("idle 19", 38).refuses("idle 20", Check.LIMIT);
        // Of the last two samples one has the number 997, and there would be a reference at 998.
        Run.of().idles(997).and("set 1 2").due("idle 1", 1).refuses("idle 2", Check.LIMIT);
        Run.of().idles(997).and("set 1 5").due("idle 2", 2).refuses("idle 3", Check.LIMIT);
    }
}
