/** Promises 7 to 12: stageOf, outputOf, pairOf, mended, errors, account. */
public final class AnswersTest {
    public static void main(String[] args) {
        promise7StageOf();
        promise7StageOfWrong();
        promise8OutputOf();
        promise8OutputOfKeepsSixteen();
        promise8OutputOfMendedAsItCame();
        promise8OutputOfWrong();
        promise9PairOf();
        promise9PairOfSizeHandedOver();
        promise9PairOfWrong();
        promise10MendedWithOne();
        promise10MendedWithThree();
        promise10MendedDescending();
        promise10MendedSameOutput();
        promise10MendedSmallOutputs();
        promise10MendedWrong();
        promise11Errors();
        promise11ErrorsWithoutReferences();
        promise11ErrorsMean();
        promise11ErrorsMeanOfFew();
        promise11ErrorsWrong();
        promise12Account();
        promise12AccountWrong();
        Check.end();
    }

    private static void promise7StageOf() {
        ChargeLines x = new ChargeLines();
        x.stage(0, 123, 45);
        x.give(9999);
        // 9999: 1229.877 stays; of 8770 leaks 394.65; 8376 come out.
        int[] due = {9999, 123, 45, 1229, 394, 8376};
        for (int what = 0; what < due.length; what++) {
            Check.due("stageOf 0 " + what, x.stageOf(0, what), due[what]);
        }
        Check.due("empty", x.stageOf(1, 5), 0);
        Check.due("no change", x.count(7), 2);
    }

    private static void promise7StageOfWrong() {
        ChargeLines x = new ChargeLines();
        Check.due("stage 3", x.stageOf(3, 0), 0);
        Check.due("stage 4", x.stageOf(4, 0), Check.INVALID);
        Check.due("stage -1", x.stageOf(-1, 0), Check.INVALID);
        Check.due("stage far", x.stageOf(Integer.MAX_VALUE, 0), Check.INVALID);
        Check.due("what 6", x.stageOf(0, 6), Check.INVALID);
        Check.due("what -1", x.stageOf(0, -1), Check.INVALID);
    }

    private static void promise8OutputOf() {
        ChargeLines x = Check.line(2, 20000, 4);
        x.stage(1, 0, 100);
        x.give(500);
        // 0: reference 1000; 1: 500.
        x.give(600);
        // 2: 600, the output 900 of the reference, which mends itself.
        int[] reference = {2, 1000, 900, 1000, 1, 0};
        for (int what = 0; what < reference.length; what++) {
            Check.due("reference " + what, x.outputOf(0, what), reference[what]);
        }
        x.give(700);
        // 3: 700, the output 450 is mended to 500.
        x.stage(1, 0, 300);
        x.give(800);
        // 4: reference, 5: 800; the outputs 600 and 700 lose 300 thousandths.
        int[] second = {4, 600, 420, 466, 0, -134};
        for (int what = 0; what < second.length; what++) {
            Check.due("second " + what, x.outputOf(1, what), second[what]);
        }
        Check.due("index 3", x.outputOf(3, 0), 2);
        Check.due("index 4", x.outputOf(4, 0), Check.NOT_FOUND);
    }

    private static void promise8OutputOfKeepsSixteen() {
        ChargeLines x = Check.line(10, 20000, 0);
        for (int i = 0; i < 25; i++) {
            Check.due("give", x.give(100 + i), 1);
        }
        Check.due("fifteen", x.count(2), 15);
        Check.due("the fifteenth", x.outputOf(14, 1), 100);
        Check.due("no sixteenth", x.outputOf(15, 1), Check.NOT_FOUND);
        x.idle(40);
        Check.due("sixteen", x.count(2), 16);
        x.begin(10);
        for (int i = 0; i < 40; i++) {
            x.give(100 + i);
        }
        for (int index = 0; index < 16; index++) {
            Check.due("number " + index, x.outputOf(index, 0), 39 - index);
            Check.due("sample " + index, x.outputOf(index, 1), 129 - index);
            Check.due("output " + index, x.outputOf(index, 2), 129 - index);
            Check.due("not mended " + index, x.outputOf(index, 3), Check.NOT_FOUND);
            Check.due("error of the output " + index, x.outputOf(index, 5), 0);
        }
        Check.due("index 16", x.outputOf(16, 0), Check.NOT_FOUND);
    }

    private static void promise8OutputOfMendedAsItCame() {
        ChargeLines x = Check.line(2, 20000, 3);
        x.stage(1, 0, 200);
        x.give(100);
        x.give(200);
        x.give(300);
        // Output 80 of 100 was mended by (800, 1000) alone, also when there are more pairs later.
        Check.due("as it came", x.outputOf(1, 3), 100);
        x.stage(1, 0, 0);
        x.idle(3);
        Check.due("there are three pairs", x.count(4), 3);
        Check.due("as it came", x.outputOf(5, 2), 80);
        Check.due("as it came", x.outputOf(5, 3), 100);
    }

    private static void promise8OutputOfWrong() {
        ChargeLines x = new ChargeLines();
        Check.due("index -1", x.outputOf(-1, 0), Check.INVALID);
        Check.due("index far", x.outputOf(Integer.MIN_VALUE, 0), Check.INVALID);
        Check.due("what -1", x.outputOf(0, -1), Check.INVALID);
        Check.due("INVALID rather than NOT_FOUND", x.outputOf(0, 6), Check.INVALID);
        Check.due("none", x.outputOf(0, 0), Check.NOT_FOUND);
        Check.due("none far", x.outputOf(Integer.MAX_VALUE, 5), Check.NOT_FOUND);
        x.idle(40);
        Check.due("what 6", x.outputOf(0, 6), Check.INVALID);
        Check.due("far", x.outputOf(Integer.MAX_VALUE, 0), Check.NOT_FOUND);
    }

    private static void promise9PairOf() {
        ChargeLines x = Check.line(2, 20000, 1);
        x.stage(0, 0, 100);
        x.give(1);
        Check.due("not yet out", x.pairOf(0, 0), Check.NOT_FOUND);
        x.give(2);
        Check.due("output", x.pairOf(0, 0), 900);
        Check.due("size", x.pairOf(0, 1), 1000);
        Check.due("other", x.pairOf(1, 0), Check.NOT_FOUND);
        x.give(3);
        x.give(4);
        Check.due("output", x.pairOf(1, 0), 3600);
        Check.due("size", x.pairOf(2, 1), 9000);
        x.stage(0, 0, 0);
        x.give(5);
        Check.due("the one it had", x.pairOf(0, 0), 900);
        x.idle(3);
        Check.due("in its place", x.pairOf(1, 0), 4000);
    }

    private static void promise9PairOfSizeHandedOver() {
        ChargeLines x = Check.line(2, 20000, 12);
        x.set(2, 555);
        x.give(1);
        x.set(2, 777);
        x.give(2);
        Check.due("the size that was handed over", x.pairOf(0, 1), 555);
        Check.due("the sample that was handed over", x.outputOf(0, 1), 555);
    }

    private static void promise9PairOfWrong() {
        ChargeLines x = Check.line(2, 20000, 1);
        x.idle(10);
        Check.due("reference 3", x.pairOf(3, 0), Check.INVALID);
        Check.due("reference -1", x.pairOf(-1, 0), Check.INVALID);
        Check.due("what 2", x.pairOf(0, 2), Check.INVALID);
        Check.due("what -1", x.pairOf(0, -1), Check.INVALID);
        Check.due("far", x.pairOf(Integer.MIN_VALUE, Integer.MAX_VALUE), Check.INVALID);
        x.begin(2);
        Check.due("INVALID rather than NOT_FOUND", x.pairOf(2, 2), Check.INVALID);
    }

    /** A line whose references come out as they are told; only the pairs of it are of use. */
    private static ChargeLines withPairs(int leaks0, int size0, int leaks1, int size1, int leaks2, int size2) {
        ChargeLines x = Check.line(2, 20000, 1);
        x.set(2, size0);
        x.set(3, size1);
        x.set(4, size2);
        x.stage(1, 0, leaks0);
        x.idle(2);
        x.stage(1, 0, leaks1);
        x.idle(1);
        x.stage(1, 0, leaks2);
        x.idle(1);
        x.set(1, 0);
        return x;
    }

    private static void promise10MendedWithOne() {
        ChargeLines x = Check.line(2, 20000, 12);
        x.stage(1, 0, 300);
        x.set(2, 10000);
        x.give(0);
        Check.due("none", x.mended(7000), Check.NOT_FOUND);
        x.give(0);
        Check.due("output", x.pairOf(0, 0), 7000);
        Check.due("the output itself", x.mended(7000), 10000);
        Check.due("rounded down", x.mended(6999), 9998);
        Check.due("above", x.mended(7001), 10001);
        Check.due("most", x.mended(100000), 142857);
        Check.due("none of it", x.mended(0), 0);
    }

    private static void promise10MendedWithThree() {
        ChargeLines x = withPairs(100, 1000, 0, 4000, 300, 9000);
        // Pairs: 900 -> 1000, 4000 -> 4000, 6300 -> 9000.
        Check.due("pair 0", x.pairOf(0, 0), 900);
        Check.due("pair 1", x.pairOf(1, 0), 4000);
        Check.due("pair 2", x.pairOf(2, 0), 6300);
        Check.due("below the first", x.mended(899), 998);
        Check.due("the first", x.mended(900), 1000);
        Check.due("between", x.mended(901), 1000);
        Check.due("between", x.mended(902), 1001);
        Check.due("between", x.mended(3999), 3999);
        Check.due("the middle one", x.mended(4000), 4000);
        Check.due("between the upper ones", x.mended(5000), 6173);
        Check.due("the last", x.mended(6300), 9000);
        Check.due("above the last", x.mended(6301), 9001);
        Check.due("far above the last", x.mended(100000), 142857);
        Check.due("nothing", x.mended(0), 0);
    }

    private static void promise10MendedDescending() {
        ChargeLines x = withPairs(0, 500, 300, 400, 300, 600);
        // Pairs: 500 -> 500, 280 -> 400, 420 -> 600; in order 280 -> 400, 420 -> 600, 500 -> 500.
        Check.due("below the first", x.mended(279), 398);
        Check.due("between", x.mended(421), 598);
        Check.due("rounded towards what is less", x.mended(499), 501);
        Check.due("rounded towards what is less", x.mended(450), 562);
        Check.due("between the lower ones", x.mended(350), 500);
        Check.due("above the last", x.mended(1000), 1000);
    }

    private static void promise10MendedSameOutput() {
        ChargeLines x = withPairs(300, 100, 0, 70, 300, 10);
        // Pairs: 70 -> 100, 70 -> 70, 7 -> 10.
        Check.due("pair 0", x.pairOf(0, 0), 70);
        Check.due("pair 1", x.pairOf(1, 0), 70);
        Check.due("pair 2", x.pairOf(2, 0), 7);
        Check.due("the lower reference counts", x.mended(70), 100);
        Check.due("above", x.mended(140), 200);
        Check.due("between", x.mended(38), 54);
        ChargeLines y = withPairs(0, 70, 300, 100, 0, 70);
        Check.due("three of the same", y.mended(7), 7);
        Check.due("three of the same", y.mended(700), 700);
        Check.due("all are known", y.count(4), 3);
    }

    /** A pair with the output 0 cannot be made: of a charge of 1 or more, 1 or more always comes out. */
    private static void promise10MendedSmallOutputs() {
        ChargeLines x = Check.line(2, 1000, 1);
        x.set(2, 1);
        x.stage(0, 300, 300);
        x.stage(1, 300, 300);
        x.idle(2);
        Check.due("1 of 1", x.pairOf(0, 0), 1);
        Check.due("by it alone", x.mended(4), 4);
        // So that much is mended to more than 1000000, a line has to lose nearly all.
        ChargeLines y = Check.line(10, 1000, 1);
        for (int stage = 0; stage < 10; stage++) {
            y.stage(stage, 300, 300);
        }
        y.set(2, 10000);
        y.set(3, 10000);
        y.set(4, 10000);
        y.idle(6);
        Check.due("a pair", y.pairOf(0, 1), 10000);
        int output = y.pairOf(0, 0);
        Check.holds("the output is small", output > 0 && output < 100);
        Check.due("no more than 1000000", y.mended(100000), 1000000);
        Check.due("as much as that", y.mended(100 * output), 1000000);
        Check.holds("less", y.mended(100 * output - 1) < 1000000);
    }

    private static void promise10MendedWrong() {
        ChargeLines x = new ChargeLines();
        int[] wrong = {-1, 100001, Integer.MIN_VALUE, Integer.MAX_VALUE};
        for (int output : wrong) {
            Check.due("INVALID rather than NOT_FOUND " + output, x.mended(output), Check.INVALID);
        }
        Check.due("none", x.mended(0), Check.NOT_FOUND);
        Check.due("none", x.mended(100000), Check.NOT_FOUND);
    }

    private static void promise11Errors() {
        ChargeLines x = Check.line(2, 20000, 0);
        Check.due("none", x.errors(0), 0);
        x.stage(1, 0, 100);
        x.give(1000);
        x.give(50);
        Check.due("none", x.errors(0), 0);
        x.give(10);
        x.give(0);
        // Outputs 900 of 1000, 45 of 50.
        Check.due("two", x.errors(0), 2);
        Check.due("greatest", x.errors(1), 100);
        Check.due("sum", x.errors(2), 100000000 - 105);
        Check.due("mean", x.errors(3), Float.floatToIntBits(52.5f));
    }

    private static void promise11ErrorsWithoutReferences() {
        ChargeLines x = Check.line(2, 20000, 12);
        x.stage(1, 0, 100);
        x.give(1000);
        x.give(100);
        Check.due("the reference is left out", x.errors(0), 0);
        Check.due("the reference is left out", x.errors(1), Check.NOT_FOUND);
        x.stage(1, 0, 0);
        x.give(0);
        // 1000 is mended by (900, 1000).
        Check.due("one", x.errors(0), 1);
        Check.due("mended", x.outputOf(0, 3), 1111);
        Check.due("above", x.errors(1), 111);
        Check.due("sum", x.errors(2), 100000111);
        x.stage(1, 0, 300);
        x.give(0);
        // 100 comes out as 70, mended to 77.
        Check.due("sum", x.errors(2), 100000111 - 23);
        Check.due("greatest", x.errors(1), 111);
        Check.due("mean without signs", x.errors(3), Float.floatToIntBits(67f));
        x.set(1, 0);
        x.idle(40);
        Check.due("sixteen", x.errors(0), 16);
        Check.due("only those that are kept", x.errors(1), 0);
        Check.due("mean 0", x.errors(3), 0);
        Check.due("sum 0", x.errors(2), 100000000);
    }

    private static void promise11ErrorsMean() {
        for (int many = 1; many <= 16; many++) {
            ChargeLines x = Check.line(2, 20000, 0);
            x.stage(1, 0, 300);
            for (int i = 0; i < many + 2; i++) {
                x.give(i == 0 ? 10 : i == many ? 7777 : i * 37 % 4);
            }
            int sum = 0;
            for (int i = 0; i < many; i++) {
                sum += Math.abs(x.outputOf(i, 5));
            }
            Check.due("many " + many, x.errors(0), many);
            Check.due("mean of " + many, x.errors(3), Float.floatToIntBits((float) sum / (float) many));
        }
    }

    /** Samples of 4 lose 1, those of 7 lose 2, and those of 3 nothing. */
    private static void promise11ErrorsMeanOfFew() {
        int[][] samples = {{4}, {7}, {4, 7}, {7, 7, 7}, {4, 3}, {4, 3, 3}, {4, 4, 3, 3, 3, 3, 3},
            {4, 3, 3, 3, 3, 3, 3, 3, 3, 3, 3, 3, 3, 3, 3, 3}};
        float[] means = {1f, 2f, 1.5f, 2f, 0.5f, 1f / 3f, 2f / 7f, 0.0625f};
        for (int i = 0; i < samples.length; i++) {
            ChargeLines x = Check.line(2, 20000, 0);
            x.stage(1, 0, 300);
            for (int sample : samples[i]) {
                x.give(sample);
            }
            x.give(0);
            x.give(0);
            Check.due("many", x.errors(0), samples[i].length);
            Check.due("mean " + means[i], x.errors(3), Float.floatToIntBits(means[i]));
        }
    }

    private static void promise11ErrorsWrong() {
        ChargeLines x = new ChargeLines();
        Check.due("what 4", x.errors(4), Check.INVALID);
        Check.due("what -1", x.errors(-1), Check.INVALID);
        Check.due("far", x.errors(Integer.MIN_VALUE), Check.INVALID);
        for (int what = 1; what <= 3; what++) {
            Check.due("none " + what, x.errors(what), Check.NOT_FOUND);
        }
        x.set(1, 1);
        x.give(10);
        x.give(10);
        Check.due("none", x.errors(0), 0);
        Check.due("none", x.errors(3), Check.NOT_FOUND);
    }

    private static void promise12Account() {
        ChargeLines x = Check.line(2, 1000, 3);
        x.set(2, 900);
        x.stage(0, 100, 50);
        x.stage(1, 0, 200);
        x.give(1200);
        // 900 in stage 0; then 90 stay, 40 leak, 770 move; 1200 and 90 are 1290, 290 spilled.
        int[] first = {2100, 0, 40, 290, 1770};
        for (int what = 0; what < 5; what++) {
            Check.due("account " + what, x.account(what), first[what]);
        }
        x.give(0);
        // 1000: 100 stay, 45 leak, 855 move. 770: 154 leak, 616 come out.
        int[] second = {2100, 616, 239, 290, 955};
        for (int what = 0; what < 5; what++) {
            Check.due("account " + what, x.account(what), second[what]);
        }
        for (int i = 0; i < 80; i++) {
            x.give(i * 97 % 3000);
            Check.due("all is accounted for", x.account(0),
                    (long) x.account(1) + x.account(2) + x.account(3) + x.account(4));
        }
    }

    private static void promise12AccountWrong() {
        ChargeLines x = new ChargeLines();
        Check.due("what 5", x.account(5), Check.INVALID);
        Check.due("what -1", x.account(-1), Check.INVALID);
        Check.due("far", x.account(Integer.MAX_VALUE), Check.INVALID);
    }
}
