import java.io.IOException;

/** The edges of "Mending", "What is kept" and of the promises 7 to 12: a test for each sentence. */
public final class AnswersEdgesTest {
    public static void main(String[] args) throws IOException {
        mending();
        whatIsKept();
        promises7And8();
        promises9And10();
        promises11And12();
        Check.end(args);
    }

    private static void mending() {
        withoutOutputsOfNought();
        sameOutputs();
        withoutAny();
        withOne();
        inTheOrderOfTheirOutputs();
        between();
        lowerOnes();
        roundedDownBetween();
        belowAndAbove();
        towardsWhatIsLess();
        aboveAMillion();
        asItComes();
        behindItsPair();
    }

    private static void whatIsKept() {
        latestSixteen();
        keptRoundTheRing();
        mendedIfItIs();
        allIsAccountedFor();
        mostThatCanBeGiven();
    }

    private static void promises7And8() {
        promise7Stages();
        promise7What();
        promise7WouldBe();
        promise8Latest();
        promise8Error();
        promise8Refused();
        promise8NotSoMany();
        promise8NotMended();
    }

    private static void promises9And10() {
        promise9Range();
        promise9None();
        promise10Range();
        promise10NotMended();
    }

    private static void promises11And12() {
        promise11WithoutReferences();
        promise11HowMany();
        promise11Greatest();
        promise11Sum();
        promise11Mean();
        promise11Refused();
        promise12Accounts();
        promise12Refused();
    }

    /** Three pairs, made by references with these sizes that lose so much in the last stage as they come out. */
    private static Run withPairs(int leaks0, int size0, int leaks1, int size1, int leaks2, int size2) {
        return Run.of("begin 2", "set 1 1", "set 2 " + size0, "set 3 " + size1, "set 4 " + size2,
                "stage 1 0 " + leaks0, "idle 2", "stage 1 0 " + leaks1, "idle 1", "stage 1 0 " + leaks2, "idle 1",
                "set 1 0");
    }

    /** Pairs 900 of 1000, 4000 of 4000, 6300 of 9000. */
    private static Run rising() {
        return withPairs(100, 1000, 0, 4000, 300, 9000);
    }

    /** Pairs 500 of 500, 280 of 400, 420 of 600. */
    private static Run falling() {
        return withPairs(0, 500, 300, 400, 300, 600);
    }

    /**
     * A pair of a reference of 10000 that comes out of ten worn stages as 10: by 4900, 2401, 1177, 577, 283, 140, 69, 35
     * and 18.
     */
    private static Run wornOut() {
        Run worn = Run.of("begin 10", "set 1 12", "set 2 10000");
        for (int stage = 0; stage < 10; stage++) {
            worn = worn.and("stage " + stage + " 300 300");
        }
        return worn.and("idle 10", "set 1 0");
    }

    /** No pair has the output 0: of a charge of 1 or more, 1 or more comes out; the smallest ones are tested here. */
    private static void withoutOutputsOfNought() {
        Check.sentence("An output is mended by the pairs that are known, without those whose outputs are 0");
        Run ones = Run.of("begin 10", "set 1 1", "set 2 1", "set 3 1", "set 4 1");
        for (int stage = 0; stage < 10; stage++) {
            ones = ones.and("stage " + stage + " 300 300");
        }
        ones = ones.and("idle 8");
        for (int reference = 0; reference < 3; reference++) {
            ones.due("pairOf " + reference + " 0", 1).due("pairOf " + reference + " 1", 1);
        }
        ones.due("count 4", 3).due("mended 0", 0).due("mended 1", 1).due("mended 100000", 100000);
    }

    private static void sameOutputs() {
        Check.sentence("(of two with the same output that of the lower reference alone counts)");
        // 70 of 70, 70 of 100.
        Run two = withPairs(0, 70, 300, 100, 0, 500);
        two.due("count 4", 3).due("pairOf 0 0", 70).due("pairOf 1 0", 70).due("pairOf 1 1", 100);
        two.due("mended 69", 69).due("mended 70", 70).due("mended 71", 71).due("mended 500", 500);
        Run turned = withPairs(300, 100, 0, 70, 0, 500);
        // 70 of 100, 70 of 70; then up to 500 of 500.
        turned.due("mended 69", 98).due("mended 70", 100).due("mended 71", 100).due("mended 72", 101);
        Run last = withPairs(0, 500, 0, 70, 300, 100);
        last.due("mended 69", 69).due("mended 70", 70).due("mended 71", 71).due("mended 7000", 7000);
        Run first = withPairs(300, 100, 0, 500, 0, 70);
        first.due("mended 69", 98).due("mended 70", 100).due("mended 7000", 7000);
        Run above = withPairs(0, 50, 300, 100, 0, 70);
        above.due("mended 70", 100).due("mended 71", 101).due("mended 50", 50).due("mended 140", 200);
        Run three = withPairs(300, 100, 0, 70, 300, 100);
        three.due("count 4", 3).due("mended 69", 98).due("mended 70", 100).due("mended 71", 101).due("mended 0", 0);
    }

    private static void withoutAny() {
        Check.sentence("Without any it is not mended.");
        Run none = Run.of("begin 2", "give 5", "give 6", "give 7");
        none.due("mended 0", Check.NOT_FOUND).due("mended 5", Check.NOT_FOUND).due("mended 100000", Check.NOT_FOUND);
        none.due("outputOf 0 2", 5).due("outputOf 0 3", Check.NOT_FOUND).due("outputOf 0 5", 0);
        Run given = Run.of("begin 2", "set 1 12", "give 5");
        given.due("count 3", 1).due("count 4", 0).due("mended 5", Check.NOT_FOUND);
    }

    private static void withOne() {
        Check.sentence("With one: the output times the size, divided by that output, rounded down.");
        // 7000 of 10000.
        Run one = Run.of("begin 2", "set 1 12", "stage 1 0 300", "set 2 10000", "idle 2");
        one.due("count 4", 1).due("mended 7000", 10000).due("mended 6999", 9998).due("mended 7001", 10001);
        one.due("mended 0", 0).due("mended 1", 1).due("mended 6", 8).due("mended 7", 10).due("mended 100000", 142857);
        Run least = Run.of("begin 2", "set 1 12", "set 2 1", "idle 2");
        least.due("mended 0", 0).due("mended 1", 1).due("mended 100000", 100000);
    }

    private static void inTheOrderOfTheirOutputs() {
        Check.sentence("With more, in the order of their outputs:");
        int[][] orders = {{10, 20, 30}, {10, 30, 20}, {20, 10, 30}, {20, 30, 10}, {30, 10, 20}, {30, 20, 10}};
        for (int[] sizes : orders) {
            // 7 of 10, 14 of 20, 21 of 30, whichever reference they are of.
            Run three = withPairs(300, sizes[0], 300, sizes[1], 300, sizes[2]);
            three.due("count 4", 3).due("mended 6", 8).due("mended 7", 10).due("mended 8", 11).due("mended 13", 18)
                    .due("mended 14", 20).due("mended 15", 21).due("mended 20", 28).due("mended 21", 30)
                    .due("mended 22", 31);
        }
    }

    private static void between() {
        Check.sentence("of the two with the outputs p and q (p below q) and sizes s and t between which the output is "
                + "(p or more, q or less;");
        Run three = rising();
        three.due("mended 900", 1000).due("mended 901", 1000).due("mended 902", 1001).due("mended 3998", 3998)
                .due("mended 3999", 3999).due("mended 4000", 4000).due("mended 4001", 4002)
                .due("mended 6299", 8997).due("mended 6300", 9000);
        Run two = Run.of("begin 2", "set 1 1", "stage 1 0 100", "idle 2", "stage 1 0 0", "idle 1", "set 1 0");
        // 900 of 1000, 4000 of 4000 alone.
        two.due("count 4", 2).due("mended 900", 1000).due("mended 4000", 4000).due("mended 2450", 2500)
                .due("mended 899", 998).due("mended 4001", 4001);
    }

    private static void lowerOnes() {
        Check.sentence("of two such the lower ones)");
        // By the lower ones and by the upper ones it is the size of the one between them.
        rising().due("mended 4000", 4000);
        falling().due("mended 420", 600);
        withPairs(0, 10, 0, 30, 0, 20).due("mended 10", 10).due("mended 20", 20).due("mended 30", 30);
        withPairs(0, 30, 0, 20, 0, 10).due("mended 10", 10).due("mended 20", 20).due("mended 30", 30);
        withPairs(0, 20, 0, 30, 0, 10).due("mended 10", 10).due("mended 20", 20).due("mended 30", 30);
    }

    private static void roundedDownBetween() {
        Check.sentence("it is s plus ((output less p) times (t less s)) divided by (q less p), rounded down;");
        // 900 of 1000 and 4000 of 4000: 3000 in 3100.
        rising().due("mended 901", 1000).due("mended 930", 1029).due("mended 931", 1030).due("mended 932", 1030)
                .due("mended 3999", 3999);
        // One beside the other there is nothing between them: 7000 of 10000, 7001 of 7001.
        Run beside = withPairs(300, 10000, 0, 7001, 0, 10000);
        beside.due("mended 7000", 10000).due("mended 7001", 7001).due("mended 7002", 7002).due("mended 6999", 9998);
        // Where the sizes are the same it is flat.
        Run flat = withPairs(300, 10000, 200, 10000, 0, 10000);
        flat.due("mended 7000", 10000).due("mended 7777", 10000).due("mended 8000", 10000).due("mended 9999", 10000)
                .due("mended 6999", 9998).due("mended 10001", 10001);
    }

    private static void belowAndAbove() {
        Check.sentence("below the first one it is as with the first one alone, above the last one as with the last one "
                + "alone.");
        rising().due("mended 0", 0).due("mended 899", 998).due("mended 6301", 9001).due("mended 7000", 10000)
                .due("mended 100000", 142857);
        falling().due("mended 0", 0).due("mended 279", 398).due("mended 501", 501).due("mended 100000", 100000);
    }

    private static void towardsWhatIsLess() {
        Check.sentence("(Rounded down: towards what is less, also below 0.)");
        // Between 420 of 600 and 500 of 500 it falls by 100 in 80.
        falling().due("mended 420", 600).due("mended 421", 598).due("mended 422", 597).due("mended 424", 595)
                .due("mended 425", 593).due("mended 499", 501).due("mended 500", 500);
        // Between 7000 of 10000 and 7999 of 7999 it falls by 2001 in 999.
        Run steep = withPairs(300, 10000, 0, 7999, 0, 1);
        steep.due("mended 7000", 10000).due("mended 7001", 9997).due("mended 7998", 8001).due("mended 7999", 7999);
    }

    private static void aboveAMillion() {
        Check.sentence("A mended output that would be above 1000000 without its sign is 1000000, or -1000000.");
        Run worn = wornOut();
        worn.due("pairOf 0 0", 10).due("pairOf 0 1", 10000);
        worn.due("mended 999", 999000).due("mended 1000", 1000000).due("mended 1001", 1000000)
                .due("mended 100000", 1000000).due("mended 10", 10000);
        // Outputs are mended so, too.
        Run mended = worn;
        for (int stage = 0; stage < 10; stage++) {
            mended = mended.and("stage " + stage + " 0 0");
        }
        mended = mended.idles(20).and("give 999", "give 1000", "give 1001", "give 10000").idles(10);
        mended.due("count 4", 1).due("outputOf 3 2", 999).due("outputOf 3 3", 999000).due("outputOf 2 2", 1000)
                .due("outputOf 2 3", 1000000).due("outputOf 1 3", 1000000).due("outputOf 0 3", 1000000)
                .due("outputOf 0 5", 990000);
    }

    private static void asItComes() {
        Check.sentence("An output is mended as it comes (behind the pair that it may make itself).");
        // 90 of 100 comes as there is 900 of 1000 alone; later there are other pairs.
        Run come = Run.of("begin 2", "set 1 3", "stage 1 0 100", "give 100", "give 200", "give 300");
        come.due("outputOf 1 2", 90).due("outputOf 1 3", 100).due("outputOf 1 5", 0);
        Run later = come.and("stage 1 0 0", "idle 3");
        later.due("count 4", 3).due("outputOf 5 2", 90).due("outputOf 5 3", 100).due("outputOf 5 0", 3);
        later.and("set 2 1", "idle 5").due("outputOf 13 0", 3).due("outputOf 13 3", 100);
        // What came before the first pair is not mended later.
        Run first = Run.of("begin 2", "give 50", "give 60", "set 1 1", "idle 2");
        first.due("pairOf 0 0", 1000).due("outputOf 3 2", 50).due("outputOf 3 3", Check.NOT_FOUND)
                .due("outputOf 2 3", Check.NOT_FOUND).due("outputOf 1 3", 1000).due("outputOf 1 4", 1);
    }

    private static void behindItsPair() {
        Check.sentence("An output is mended as it comes (behind the pair that it may make itself).");
        Run itself = Run.of("begin 2", "set 1 12", "stage 1 0 300", "idle 2");
        itself.due("outputOf 0 2", 700).due("outputOf 0 3", 1000).due("outputOf 0 4", 1).due("outputOf 0 5", 0);
        // With the number 8, 1400 of 2000 takes the place of 1000 of 1000, by which it would be 1400.
        Run anew = Run.of("begin 2", "set 1 1", "idle 3", "set 2 2000", "idle 1").due("pairOf 0 0", 1000);
        anew = anew.and("stage 1 0 300", "idle 1").due("pairOf 0 0", 1400).due("pairOf 0 1", 2000);
        anew.due("outputOf 1 0", 8).due("outputOf 1 2", 1400).due("outputOf 1 3", 2000);
        // Of the same outputs the lower reference mends, also what the higher one just made.
        Run same = withPairs(0, 70, 300, 100, 0, 500);
        same.due("outputOf 3 1", 100).due("outputOf 3 2", 70).due("outputOf 3 3", 70).due("outputOf 3 5", -30);
    }

    private static void latestSixteen() {
        Check.sentence("The latest 16 outputs that belong to samples (references, too) are kept:");
        for (int n = 2; n <= 10; n += 4) {
            Run run = Run.of("begin " + n).times(n, "give 9");
            for (int come = 0; come <= 18; come++) {
                int kept = Math.min(come, 16);
                run.due("count 2", kept).due("outputOf " + kept + " 0", Check.NOT_FOUND);
                if (kept > 0) {
                    run.due("outputOf 0 0", n + come - 1).due("outputOf " + (kept - 1) + " 0", n + come - kept);
                }
                run = run.and("give 9");
            }
        }
        Run references = Run.of("begin 2", "set 1 1", "idle 8").due("count 2", 14);
        references.and("idle 1").due("count 2", 16).due("outputOf 15 4", 1).due("outputOf 15 1", 1000)
                .due("outputOf 16 4", Check.NOT_FOUND);
        references.and("idle 2").due("count 2", 16).due("outputOf 15 1", 4000).due("outputOf 14 4", 0);
    }

    /** Whatever is kept in turn in some number of places comes round in eighty hand-overs. */
    private static void keptRoundTheRing() {
        Check.sentence("The latest 16 outputs that belong to samples (references, too) are kept:");
        for (int n = 2; n <= 10; n += 8) {
            Run run = Run.of("begin " + n, "stage " + (n - 1) + " 0 1");
            for (int given = 1; given <= 80; given++) {
                run = run.and("give " + (2000 + given));
                for (int index = 0; index < 16 && given > 30; index += 5) {
                    int sample = 2000 + given - n - index;
                    run.due("outputOf " + index + " 0", given - 1 - index).due("outputOf " + index + " 1", sample)
                            .due("outputOf " + index + " 2", sample - 2).due("outputOf " + index + " 5", -2)
                            .due("outputOf " + index + " 4", 0);
                }
            }
        }
    }

    private static void mendedIfItIs() {
        Check.sentence("the sample, the output, the mended one if it is mended, and whether it is a reference.");
        Run run = Run.of("begin 2", "stage 1 0 100", "give 100", "set 1 1", "give 200", "give 300");
        // The number 0 is 100, 1 a reference, 2 is 200, 3 a reference, 4 is 300.
        run.due("count 1", 5).due("outputOf 2 1", 100).due("outputOf 2 2", 90).due("outputOf 2 3", Check.NOT_FOUND)
                .due("outputOf 2 4", 0);
        run.due("outputOf 1 1", 1000).due("outputOf 1 2", 900).due("outputOf 1 3", 1000).due("outputOf 1 4", 1);
        run.due("outputOf 0 1", 200).due("outputOf 0 2", 180).due("outputOf 0 3", 200).due("outputOf 0 4", 0);
    }

    private static void allIsAccountedFor() {
        Check.sentence("what was given in is always what all others are together.");
        Run run = Run.of("begin 3", "set 0 1000", "set 1 3", "stage 0 300 1", "stage 1 17 300", "stage 2 299 7");
        accountedFor(run);
        for (int i = 0; i < 60; i++) {
            run = run.and(i % 7 == 3 ? "idle 2" : "give " + i * 1777 % 10001);
            if (i % 11 == 5) {
                run = run.and("stage " + i % 3 + " " + i * 5 + " " + (300 - i * 5));
            }
            accountedFor(run);
        }
        accountedFor(run.and("undo"));
        accountedFor(run.and("set 0 100000", "give 10000", "set 0 1000"));
        accountedFor(run.and("begin 5"));
        accountedFor(run.and("begin 5", "undo"));
    }

    private static void accountedFor(Run run) {
        long others = 0;
        for (int what = 1; what <= 4; what++) {
            others += run.answer("account " + what);
        }
        run.due("account 0", others);
    }

    private static void mostThatCanBeGiven() {
        Check.sentence("what was given in is always what all others are together.");
        Run full = Run.of("set 0 1000", "text s10000;s10000;s10000;s10000;s10000;s10000;s10000;s10000;");
        full = full.times(124, "play").times(7, "give 10000");
        full.due("count 1", 999).due("account 0", 9990000).due("account 1", 995000).due("account 2", 0)
                .due("account 3", 8991000).due("account 4", 4000);
    }

    private static void promise7Stages() {
        Check.sentence("`int stageOf(int stage, int what)`: Returns something of a stage.");
        for (int n = 2; n <= 10; n += 4) {
            Run run = Run.of("begin " + n, "give 3");
            for (int what = 0; what < 6; what++) {
                run.refuses("stageOf -1 " + what, Check.INVALID).refuses("stageOf " + n + " " + what, Check.INVALID);
            }
            run.due("stageOf 0 0", 3).due("stageOf " + (n - 1) + " 0", 0);
            run.due("stageOf least 0", Check.INVALID).due("stageOf most 0", Check.INVALID);
        }
    }

    private static void promise7What() {
        Check.sentence("- `what`: 0: its charge; 1: what stays, in thousandths; 2: what leaks, in thousandths;");
        Check.sentence("Returns the number; INVALID_ARGUMENT if an argument is out of range.");
        Run run = Run.of("give 3");
        run.refuses("stageOf 0 -1", Check.INVALID).refuses("stageOf 0 6", Check.INVALID)
                .refuses("stageOf 0 least", Check.INVALID).refuses("stageOf 0 most", Check.INVALID)
                .refuses("stageOf 4 6", Check.INVALID);
        run.due("stageOf 0 0", 3).due("stageOf 0 5", 3);
    }

    private static void promise7WouldBe() {
        Check.sentence("3: what would stay by the next hand-over; 4: what would leak; 5: what would come out of it");
        Run empty = Run.of("stage 3 300 300");
        empty.due("stageOf 3 3", 0).due("stageOf 3 4", 0).due("stageOf 3 5", 0);
        // What would come is not held by the capacity of the stage behind it.
        Run full = Run.of("give 10000", "set 0 1000", "stage 0 300 300");
        full.due("stageOf 0 3", 3000).due("stageOf 0 4", 2100).due("stageOf 0 5", 4900);
        full.and("give 0").due("stageOf 0 0", 1000).due("stageOf 1 0", 1000).due("account 2", 2100);
        Run one = Run.of("stage 0 300 300", "give 1");
        one.due("stageOf 0 3", 0).due("stageOf 0 4", 0).due("stageOf 0 5", 1);
    }

    private static void promise8Latest() {
        Check.sentence("- `index`: 0 for the latest one, and so on");
        Run run = Run.of("begin 2", "give 11", "give 12", "give 13", "give 14", "give 15");
        run.due("outputOf 0 1", 13).due("outputOf 1 1", 12).due("outputOf 2 1", 11)
                .due("outputOf 3 1", Check.NOT_FOUND);
        run.and("undo").due("outputOf 0 1", 12).due("outputOf 1 1", 11).due("outputOf 2 1", Check.NOT_FOUND);
        Run many = Run.of("begin 2").times(30, "give 11").and("give 12", "give 13", "give 14");
        many.due("outputOf 0 1", 12).due("outputOf 1 1", 11).due("outputOf 15 1", 11);
    }

    private static void promise8Error() {
        Check.sentence("5: the error: the mended one (the output, if it is not mended) less the sample");
        Run spilled = Run.of("begin 2", "set 0 1000", "give 10000", "idle 2");
        spilled.due("outputOf 0 5", -9000).due("outputOf 0 3", Check.NOT_FOUND);
        // What stayed of 10000 comes out with a sample that is 0.
        Run above = Run.of("begin 2", "stage 1 300 0", "give 10000", "idle 3");
        above.due("outputOf 0 1", 0).due("outputOf 0 5", 2100).due("outputOf 1 5", -3000);
        Run mended = Run.of("begin 2", "set 1 12", "stage 1 0 300", "give 70", "idle 2");
        mended.due("outputOf 0 2", 49).due("outputOf 0 3", 70).due("outputOf 0 5", 0);
    }

    private static void promise8Refused() {
        Check.sentence("- `what`: 0: its number; 1: the sample to which it belongs; 2: the output; 3: the mended one; "
                + "4: 1 if it belongs to a reference, otherwise 0;");
        Check.sentence("Returns the number; INVALID_ARGUMENT if what is out of range or index is negative;");
        Run none = Run.of("give 5");
        Run some = Run.of("set 1 2").idles(40);
        for (Run run : new Run[] {none, some}) {
            run.refuses("outputOf -1 0", Check.INVALID).refuses("outputOf least 5", Check.INVALID)
                    .refuses("outputOf 0 -1", Check.INVALID).refuses("outputOf 0 6", Check.INVALID)
                    .refuses("outputOf 0 least", Check.INVALID).refuses("outputOf 0 most", Check.INVALID);
            // Rather than NOT_FOUND.
            run.refuses("outputOf 16 6", Check.INVALID).refuses("outputOf most -1", Check.INVALID)
                    .refuses("outputOf -1 3", Check.INVALID);
        }
    }

    private static void promise8NotSoMany() {
        Check.sentence("NOT_FOUND if there are not so many, for 3 if it is not mended.");
        for (int what = 0; what < 6; what++) {
            Run.of().refuses("outputOf 0 " + what, Check.NOT_FOUND);
            Run.of("begin 2", "give 1", "give 2", "give 3").refuses("outputOf 1 " + what, Check.NOT_FOUND);
            Run.of().idles(80).refuses("outputOf 16 " + what, Check.NOT_FOUND)
                    .refuses("outputOf most " + what, Check.NOT_FOUND).due("outputOf 15 1", 0);
        }
    }

    private static void promise8NotMended() {
        Check.sentence("for 3 if it is not mended.");
        Run run = Run.of("begin 2", "give 0", "give 2", "give 3");
        run.refuses("outputOf 0 3", Check.NOT_FOUND).due("outputOf 0 2", 0).due("outputOf 0 5", 0);
        // Mended to 0 it is mended.
        Run mended = Run.of("begin 2", "set 1 12", "give 0", "idle 2");
        mended.due("outputOf 0 2", 0).due("outputOf 0 3", 0).due("outputOf 0 4", 0);
        mended.and("begin 2", "set 1 0", "idle 3").due("outputOf 0 3", Check.NOT_FOUND);
    }

    private static void promise9Range() {
        Check.sentence("- `what`: 0: the output; 1: the size");
        Check.sentence("- `reference`: 0 to 2");
        Run none = Run.of("give 5");
        for (Run run : new Run[] {none, rising()}) {
            run.refuses("pairOf -1 0", Check.INVALID).refuses("pairOf 3 0", Check.INVALID)
                    .refuses("pairOf least 1", Check.INVALID).refuses("pairOf most 1", Check.INVALID)
                    .refuses("pairOf 0 -1", Check.INVALID).refuses("pairOf 2 2", Check.INVALID)
                    .refuses("pairOf 0 least", Check.INVALID).refuses("pairOf 0 most", Check.INVALID)
                    .refuses("pairOf 3 2", Check.INVALID);
        }
        rising().due("pairOf 0 0", 900).due("pairOf 0 1", 1000).due("pairOf 2 0", 6300).due("pairOf 2 1", 9000);
    }

    private static void promise9None() {
        Check.sentence("Returns the number; INVALID_ARGUMENT if an argument is out of range; NOT_FOUND if there is none.");
        Run one = Run.of("begin 2", "set 1 12", "idle 2").due("pairOf 0 0", 1000);
        for (int what = 0; what < 2; what++) {
            Run.of().refuses("pairOf 0 " + what, Check.NOT_FOUND).refuses("pairOf 2 " + what, Check.NOT_FOUND);
            one.refuses("pairOf 1 " + what, Check.NOT_FOUND).refuses("pairOf 2 " + what, Check.NOT_FOUND);
            one.and("undo").refuses("pairOf 0 " + what, Check.NOT_FOUND);
        }
    }

    private static void promise10Range() {
        Check.sentence("- `output`: 0 to 100000");
        Run none = Run.of("give 5");
        for (Run run : new Run[] {none, rising(), wornOut()}) {
            run.refuses("mended -1", Check.INVALID).refuses("mended 100001", Check.INVALID)
                    .refuses("mended least", Check.INVALID).refuses("mended most", Check.INVALID);
        }
        rising().due("mended 0", 0).due("mended 100000", 142857);
    }

    private static void promise10NotMended() {
        Check.sentence("Returns what it is then; INVALID_ARGUMENT if output is out of range; "
                + "NOT_FOUND if it is not mended.");
        Run.of("give 5").refuses("mended 0", Check.NOT_FOUND).refuses("mended 5", Check.NOT_FOUND)
                .refuses("mended 100000", Check.NOT_FOUND);
        Run one = Run.of("begin 2", "set 1 12", "idle 1");
        one.refuses("mended 5", Check.NOT_FOUND);
        one.and("idle 1").due("mended 5", 5).and("begin 2").refuses("mended 5", Check.NOT_FOUND);
    }

    private static void promise11WithoutReferences() {
        Check.sentence("Returns something of the errors of the outputs that are kept, references left out.");
        // The reference alone has come out, and has an error that is not counted.
        Run reference = Run.of("begin 2", "set 1 1", "set 0 1000", "set 3 9999", "idle 2");
        reference.due("count 2", 2).due("errors 0", 1).due("errors 1", 0);
        Run only = Run.of("begin 2", "give 0", "set 1 1", "give 7", "set 1 0");
        only.due("count 1", 3).due("count 2", 1).due("errors 0", 1);
        only.and("give 0").due("count 2", 2).due("errors 0", 1);
        Run first = Run.of("begin 2", "set 1 12", "give 7", "give 8");
        first.due("count 2", 1).due("errors 0", 0);
        first.refuses("errors 1", Check.NOT_FOUND).refuses("errors 2", Check.NOT_FOUND)
                .refuses("errors 3", Check.NOT_FOUND);
        Run half = Run.of("begin 2", "set 1 1", "idle 40").due("count 2", 16);
        half.due("errors 0", 8);
        // References 4000 and 9000 that lose 300 thousandths have errors as they come, which are left out.
        Run lost = Run.of("begin 2", "set 1 1", "idle 20", "stage 1 0 300", "idle 1");
        lost.due("outputOf 1 4", 1).due("outputOf 0 4", 0).due("errors 1", 0).due("errors 2", 100000000);
    }

    private static void promise11HowMany() {
        Check.sentence("- `what`: 0: how many there are;");
        Run run = Run.of("begin 2", "give 1", "give 2");
        for (int come = 0; come <= 18; come++) {
            run.due("errors 0", Math.min(come, 16));
            run = run.and("give 3");
        }
    }

    private static void promise11Greatest() {
        Check.sentence("1: the greatest error without its sign;");
        // It is -3000 at first; then there are those above 0 of what stayed; -3000 is kept for 16 outputs.
        Run run = Run.of("begin 2", "stage 1 300 0", "give 10000", "idle 2");
        run.due("errors 1", 3000).and("idle 15").due("errors 1", 3000).and("idle 1").due("errors 1", 2100);
        run.and("idle 17").due("errors 1", 630);
        Run.of("begin 2", "give 10000", "idle 2").due("errors 1", 0);
    }

    private static void promise11Sum() {
        Check.sentence("2: the sum of all errors plus 100000000;");
        Run.of("begin 2", "give 10000", "idle 2").due("errors 2", 100000000);
        Run.of("begin 2", "stage 1 300 0", "give 10000", "idle 2").due("errors 2", 99997000)
                .and("idle 1").due("errors 2", 99999100);
        Run least = Run.of("begin 2", "set 0 1000").times(18, "give 10000");
        least.due("errors 2", 100000000 - 144000).due("errors 1", 9000);
        mendedTooHigh().due("errors 0", 16).due("errors 1", 990000).due("errors 2", 100000000 + 16 * 990000);
    }

    /** Sixteen outputs that are mended to 1000000, of samples of 10000. */
    private static Run mendedTooHigh() {
        Run run = wornOut();
        for (int stage = 0; stage < 10; stage++) {
            run = run.and("stage " + stage + " 0 0");
        }
        return run.idles(2).times(26, "give 10000");
    }

    private static void promise11Mean() {
        Check.sentence("3: the bits of the mean of errors without their signs, as a float: their sum, as a float, "
                + "divided by how many there are, as a float");
        Run.of("begin 2", "give 10000", "idle 2").due("errors 3", 0);
        Run one = Run.of("begin 2", "stage 1 300 0", "give 10000", "idle 2");
        one.due("errors 3", Float.floatToIntBits(3000f));
        one.and("idle 1").due("errors 3", Float.floatToIntBits(2550f));
        one.and("idle 2").due("errors 3", Float.floatToIntBits(5730f / 3f));
        mendedTooHigh().due("errors 3", Float.floatToIntBits(990000f));
        // At each power of two the exponent is one more: what is spilled of one sample is the mean.
        for (int mean = 1; mean <= 8192; mean *= 2) {
            for (int error = mean - 1; error <= mean + 1; error++) {
                Run spilled = Run.of("begin 2", "set 0 1000", "give " + (1000 + error), "idle 2");
                spilled.due("errors 3", Float.floatToIntBits((float) error));
            }
        }
        // One error of 1 in one to sixteen outputs.
        Run small = Run.of("begin 2", "stage 1 0 300", "give 4", "idle 2");
        for (int many = 1; many <= 16; many++) {
            small.due("errors 3", Float.floatToIntBits(1f / (float) many));
            small = small.and("idle 1");
        }
        small.due("errors 3", 0);
    }

    private static void promise11Refused() {
        Check.sentence("Returns the number; INVALID_ARGUMENT if what is out of range; NOT_FOUND for 1 to 3 if there is "
                + "none.");
        Run none = Run.of("give 5");
        for (Run run : new Run[] {none, rising()}) {
            run.refuses("errors -1", Check.INVALID).refuses("errors 4", Check.INVALID)
                    .refuses("errors least", Check.INVALID).refuses("errors most", Check.INVALID);
        }
        none.due("errors 0", 0).refuses("errors 1", Check.NOT_FOUND).refuses("errors 2", Check.NOT_FOUND)
                .refuses("errors 3", Check.NOT_FOUND);
        rising().due("errors 0", 3);
        rising().and("begin 2").refuses("errors 1", Check.NOT_FOUND).due("errors 0", 0);
    }

    private static void promise12Accounts() {
        Check.sentence("- `what`: 0: given in; 1: came out; 2: leaked; 3: spilled; 4: in the stages");
        for (int what = 0; what < 5; what++) {
            Run.of().due("account " + what, 0);
            Run.of("idle 40").due("account " + what, 0);
        }
        // Also what comes out before an output belongs to a sample is counted, and references are.
        Run run = Run.of("begin 2", "set 0 1000", "set 1 12", "stage 0 0 100", "give 1500");
        run.due("account 0", 2500).due("account 1", 0).due("account 2", 100).due("account 3", 500)
                .due("account 4", 1900);
        run.and("give 0").due("account 1", 900).due("account 2", 200).due("account 4", 900);
    }

    private static void promise12Refused() {
        Check.sentence("Returns the sum; INVALID_ARGUMENT if what is out of range.");
        Run.of("give 5").refuses("account -1", Check.INVALID).refuses("account 5", Check.INVALID)
                .refuses("account least", Check.INVALID).refuses("account most", Check.INVALID)
                .due("account 0", 5).due("account 4", 5);
    }
}
