/** Promises 1 to 6: a new object, begin, stage, set, give, idle. */
public final class LineTest {
    public static void main(String[] args) {
        promise1NewObject();
        promise2Begin();
        promise2BeginShares();
        promise2BeginWrong();
        promise3Stage();
        promise3StageWrong();
        promise4Set();
        promise4SetWrong();
        promise5Give();
        promise5GiveParts();
        promise5GiveSpills();
        promise5GiveReferences();
        promise5GiveWrong();
        promise5GiveLimit();
        promise6Idle();
        promise6IdleWrong();
        promise6IdleLimit();
        Check.end();
    }

    private static void promise1NewObject() {
        ChargeLines x = new ChargeLines();
        int[] counts = {4, 0, 0, 0, 0, 0, 0, 0, 0};
        for (int i = 0; i < counts.length; i++) {
            Check.due("new count " + i, x.count(i), counts[i]);
        }
        int[] settings = {20000, 0, 1000, 4000, 9000};
        for (int i = 0; i < settings.length; i++) {
            Check.due("new setting " + i, x.count(20 + i), settings[i]);
        }
        for (int stage = 0; stage < 4; stage++) {
            for (int what = 0; what < 6; what++) {
                Check.due("new stageOf " + stage + " " + what, x.stageOf(stage, what), 0);
            }
        }
        for (int what = 0; what < 5; what++) {
            Check.due("new account " + what, x.account(what), 0);
        }
        Check.due("new stageOf 4", x.stageOf(4, 0), Check.INVALID);
        Check.due("new outputOf", x.outputOf(0, 2), Check.NOT_FOUND);
        Check.due("new pairOf", x.pairOf(2, 0), Check.NOT_FOUND);
        Check.due("new undo", x.undo(), Check.NOT_POSSIBLE);
        ChargeLines other = new ChargeLines();
        other.set(0, 1000);
        Check.due("objects are apart", x.count(20), 20000);
    }

    private static void promise2Begin() {
        ChargeLines x = Check.line(2, 20000, 2);
        x.set(2, 700);
        x.stage(0, 0, 100);
        Check.due("give", x.give(100), 2);
        Check.due("give", x.give(200), 2);
        Check.due("leaked", x.account(2), 80 + 400);
        Check.due("turn", x.count(5), 2);
        Check.due("pairs", x.count(4), 1);
        Check.due("begin tells the hand-overs", x.begin(3), 4);
        Check.due("begin again", x.begin(3), 0);
        Check.due("stages", x.count(0), 3);
        for (int what = 1; what <= 5; what++) {
            Check.due("begin count " + what, x.count(what), 0);
        }
        Check.due("begin is for a reference", x.count(6), 1);
        for (int stage = 0; stage < 3; stage++) {
            Check.due("begin empties " + stage, x.stageOf(stage, 0), 0);
        }
        for (int what = 0; what < 5; what++) {
            Check.due("begin account " + what, x.account(what), 0);
        }
        Check.due("begin pair", x.pairOf(0, 0), Check.NOT_FOUND);
        Check.due("begin mended", x.mended(10), Check.NOT_FOUND);
        Check.due("begin output", x.outputOf(0, 0), Check.NOT_FOUND);
        Check.due("settings stay", x.count(22), 700);
        Check.due("settings stay", x.count(21), 2);
        x.give(5);
        x.give(6);
        x.give(7);
        Check.due("the reference 0 was first", x.pairOf(0, 1), 700);
        Check.due("a sample of the new line", x.outputOf(1, 1), 5);
    }

    private static void promise2BeginShares() {
        ChargeLines x = new ChargeLines();
        x.stage(1, 10, 20);
        x.stage(3, 30, 40);
        Check.due("same", x.begin(4), 0);
        Check.due("shares stay", x.stageOf(3, 1), 30);
        Check.due("shares stay", x.stageOf(3, 2), 40);
        Check.due("less", x.begin(2), 0);
        Check.due("no stage", x.stageOf(2, 0), Check.INVALID);
        Check.due("more", x.begin(10), 0);
        Check.due("shares stay", x.stageOf(1, 1), 10);
        Check.due("shares stay", x.stageOf(1, 2), 20);
        for (int stage = 2; stage < 10; stage++) {
            Check.due("beyond " + stage, x.stageOf(stage, 1), 0);
            Check.due("beyond " + stage, x.stageOf(stage, 2), 0);
        }
        Check.due("no eleventh", x.stageOf(10, 0), Check.INVALID);
    }

    private static void promise2BeginWrong() {
        ChargeLines x = new ChargeLines();
        x.give(50);
        int[] wrong = {1, 11, 0, -1, Integer.MIN_VALUE, Integer.MAX_VALUE};
        for (int stages : wrong) {
            Check.due("begin " + stages, x.begin(stages), Check.INVALID);
        }
        Check.due("nothing changed", x.count(0), 4);
        Check.due("nothing changed", x.count(1), 1);
        Check.due("nothing recorded", x.count(7), 1);
        Check.due("fewest", x.begin(2), 1);
        Check.due("most", x.begin(10), 0);
    }

    private static void promise3Stage() {
        ChargeLines x = new ChargeLines();
        Check.due("stage", x.stage(0, 300, 17), 0);
        Check.due("stage", x.stage(0, 0, 300), 300017);
        Check.due("stage", x.stage(0, 1, 2), 300);
        Check.due("stage", x.stage(3, 5, 6), 0);
        Check.due("stays", x.stageOf(0, 1), 1);
        Check.due("leaks", x.stageOf(0, 2), 2);
        Check.due("other", x.stageOf(1, 1), 0);
        Check.due("last", x.stageOf(3, 2), 6);
        Check.due("a change", x.count(7), 4);
        Check.due("the same again is a change", x.stage(3, 5, 6), 5006);
        Check.due("undo", x.undo(), 3);
        Check.due("undo", x.undo(), 2);
        Check.due("undone", x.stageOf(3, 1), 0);
    }

    private static void promise3StageWrong() {
        ChargeLines x = new ChargeLines();
        Check.due("stage 4", x.stage(4, 0, 0), Check.INVALID);
        Check.due("stage -1", x.stage(-1, 0, 0), Check.INVALID);
        Check.due("stays 301", x.stage(0, 301, 0), Check.INVALID);
        Check.due("stays -1", x.stage(0, -1, 0), Check.INVALID);
        Check.due("leaks 301", x.stage(0, 0, 301), Check.INVALID);
        Check.due("leaks -1", x.stage(0, 0, -1), Check.INVALID);
        Check.due("far", x.stage(Integer.MAX_VALUE, 0, 0), Check.INVALID);
        Check.due("far", x.stage(0, Integer.MIN_VALUE, 0), Check.INVALID);
        Check.due("nothing recorded", x.count(7), 0);
        x.begin(10);
        Check.due("stage 9", x.stage(9, 300, 300), 0);
        Check.due("stage 10", x.stage(10, 0, 0), Check.INVALID);
    }

    private static void promise4Set() {
        int[] first = {20000, 0, 1000, 4000, 9000};
        int[] least = {1000, 0, 1, 1, 1};
        int[] most = {100000, 12, 10000, 10000, 10000};
        for (int what = 0; what < 5; what++) {
            ChargeLines x = new ChargeLines();
            Check.due("set least " + what, x.set(what, least[what]), first[what]);
            Check.due("set most " + what, x.set(what, most[what]), least[what]);
            Check.due("set same " + what, x.set(what, most[what]), most[what]);
            Check.due("set count " + what, x.count(20 + what), most[what]);
            Check.due("set is a change " + what, x.count(7), 3);
            x.undo();
            x.undo();
            Check.due("set undone " + what, x.count(20 + what), least[what]);
        }
    }

    private static void promise4SetWrong() {
        int[] least = {1000, 0, 1, 1, 1};
        int[] most = {100000, 12, 10000, 10000, 10000};
        ChargeLines x = new ChargeLines();
        for (int what = 0; what < 5; what++) {
            Check.due("below " + what, x.set(what, least[what] - 1), Check.INVALID);
            Check.due("above " + what, x.set(what, most[what] + 1), Check.INVALID);
            Check.due("far " + what, x.set(what, Integer.MIN_VALUE), Check.INVALID);
        }
        Check.due("set 5", x.set(5, 1000), Check.INVALID);
        Check.due("set -1", x.set(-1, 1000), Check.INVALID);
        Check.due("set far", x.set(Integer.MAX_VALUE, 1000), Check.INVALID);
        Check.due("nothing recorded", x.count(7), 0);
    }

    private static void promise5Give() {
        ChargeLines x = Check.line(3, 20000, 0);
        Check.due("give", x.give(10000), 1);
        Check.due("in the first stage", x.stageOf(0, 0), 10000);
        Check.due("give", x.give(77), 1);
        Check.due("moved", x.stageOf(1, 0), 10000);
        Check.due("in the first stage", x.stageOf(0, 0), 77);
        Check.due("give", x.give(0), 1);
        Check.due("no output belongs yet", x.count(2), 0);
        Check.due("give", x.give(5), 1);
        Check.due("one output", x.count(2), 1);
        Check.due("its number", x.outputOf(0, 0), 3);
        Check.due("the output", x.outputOf(0, 2), 10000);
        Check.due("the sample", x.outputOf(0, 1), 10000);
        Check.due("came out", x.account(1), 10000);
    }

    private static void promise5GiveParts() {
        ChargeLines x = Check.line(2, 20000, 0);
        x.stage(0, 111, 222);
        x.stage(1, 33, 7);
        x.give(999);
        // 999: stays 110.889, so 110; of the rest 889 leaks 197.358, so 197; 692 move.
        x.give(500);
        Check.due("stage 0", x.stageOf(0, 0), 610);
        Check.due("stage 1", x.stageOf(1, 0), 692);
        Check.due("leaked", x.account(2), 197);
        // 610: stays 67, rest 543, leaks 120, 423 move. 692: stays 22, rest 670, leaks 4, 666 move.
        x.give(0);
        Check.due("stage 0", x.stageOf(0, 0), 67);
        Check.due("stage 1", x.stageOf(1, 0), 445);
        Check.due("leaked", x.account(2), 321);
        Check.due("came out", x.account(1), 666);
        Check.due("output", x.outputOf(0, 2), 666);
        Check.due("belongs to", x.outputOf(0, 1), 999);
    }

    private static void promise5GiveSpills() {
        ChargeLines x = Check.line(2, 1000, 0);
        x.stage(0, 300, 0);
        x.give(1000);
        Check.due("as much as it holds", x.account(3), 0);
        x.give(701);
        // 300 stay, 701 come: one too many.
        Check.due("spilled", x.account(3), 1);
        Check.due("stage 0", x.stageOf(0, 0), 1000);
        x.stage(1, 300, 0);
        x.set(0, 100000);
        x.give(10000);
        Check.due("nothing more spilled", x.account(3), 1);
        x.set(0, 1000);
        Check.due("less capacity alone spills nothing", x.account(3), 1);
        Check.due("less capacity alone spills nothing", x.stageOf(0, 0), 10300);
        x.give(0);
        // stage 0: 3090 stay, 7210 move; stage 1 had 910: 273 stay, 637 come out; it gets 7483.
        Check.due("spilled in both", x.account(3), 1 + 2090 + 6483);
        Check.due("stage 0", x.stageOf(0, 0), 1000);
        Check.due("stage 1", x.stageOf(1, 0), 1000);
    }

    private static void promise5GiveReferences() {
        ChargeLines x = Check.line(2, 20000, 3);
        Check.due("0 is for a reference", x.give(10), 2);
        Check.due("2 is not", x.give(20), 1);
        Check.due("3 is", x.give(30), 2);
        Check.due("5 is not", x.give(40), 1);
        Check.due("6 is", x.give(50), 2);
        Check.due("8 is not", x.give(60), 1);
        Check.due("9 is", x.give(70), 2);
        Check.due("10 was the sample's", x.count(1), 11);
        Check.due("references", x.count(3), 4);
        Check.due("in turn", x.count(5), 1);
        int[] due = {1000, 10, 20, 4000, 30, 40, 9000, 50, 60};
        for (int i = 0; i < due.length; i++) {
            Check.due("sample " + i, x.outputOf(due.length - 1 - i, 1), due[i]);
            Check.due("reference " + i, x.outputOf(due.length - 1 - i, 4), i % 3 == 0 ? 1 : 0);
        }
        x.set(1, 1);
        Check.due("each is for a reference", x.give(80), 2);
        Check.due("each is for a reference", x.give(80), 2);
        x.set(1, 0);
        Check.due("none is", x.give(80), 1);
        Check.due("the turn stays", x.count(5), 0);
    }

    private static void promise5GiveWrong() {
        ChargeLines x = new ChargeLines();
        int[] wrong = {-1, 10001, Integer.MIN_VALUE, Integer.MAX_VALUE};
        for (int sample : wrong) {
            Check.due("give " + sample, x.give(sample), Check.INVALID);
        }
        Check.due("nothing given", x.count(1), 0);
        Check.due("nothing recorded", x.count(7), 0);
        Check.due("give 0", x.give(0), 1);
        Check.due("give 10000", x.give(10000), 1);
    }

    private static void promise5GiveLimit() {
        ChargeLines x = new ChargeLines();
        for (int i = 0; i < 24; i++) {
            x.idle(40);
        }
        x.idle(38);
        x.set(1, 2);
        Check.due("hand-overs", x.count(1), 998);
        Check.due("998 would be for a reference", x.count(6), 1);
        Check.due("a reference and a sample are too many", x.give(1), Check.LIMIT);
        Check.due("INVALID rather than LIMIT", x.give(-1), Check.INVALID);
        Check.due("nothing changed", x.count(1), 998);
        Check.due("nothing recorded", x.count(7), 4);
        Check.due("turn", x.count(5), 0);
        x.set(1, 3);
        Check.due("the last one", x.give(1), 1);
        Check.due("999 could be for a reference", x.count(6), 1);
        Check.due("no more", x.give(1), Check.LIMIT);
        Check.due("hand-overs", x.begin(4), 999);
        Check.due("a new line", x.give(1), 2);
    }

    private static void promise6Idle() {
        ChargeLines x = Check.line(2, 20000, 5);
        x.give(300);
        Check.due("idle 1", x.idle(1), 1);
        // The numbers from 3 on: 3, 4, reference at 5, 6, 7.
        Check.due("idle 4", x.idle(4), 5);
        Check.due("hand-overs", x.count(1), 8);
        Check.due("references", x.count(3), 2);
        Check.due("samples are 0", x.outputOf(0, 1), 4000);
        Check.due("samples are 0", x.outputOf(1, 1), 0);
        Check.due("given", x.account(0), 5300);
        Check.due("one change", x.undo(), 3);
        Check.due("hand-overs", x.count(1), 3);
        Check.due("idle 40", x.idle(40), 50);
    }

    private static void promise6IdleWrong() {
        ChargeLines x = new ChargeLines();
        int[] wrong = {0, 41, -1, Integer.MIN_VALUE, Integer.MAX_VALUE};
        for (int many : wrong) {
            Check.due("idle " + many, x.idle(many), Check.INVALID);
        }
        Check.due("nothing given", x.count(1), 0);
        Check.due("nothing recorded", x.count(7), 0);
    }

    private static void promise6IdleLimit() {
        ChargeLines x = new ChargeLines();
        for (int i = 0; i < 24; i++) {
            Check.due("idle 40", x.idle(40), 40);
        }
        Check.due("too many", x.idle(40), Check.LIMIT);
        Check.due("INVALID rather than LIMIT", x.idle(41), Check.INVALID);
        Check.due("nothing changed", x.count(1), 960);
        Check.due("nothing recorded", x.count(7), 4);
        x.set(1, 12);
        // 960 and every twelfth are for references: 960, 972, 984, 996; so 36 samples end at 1000.
        Check.due("one too many", x.idle(36), Check.LIMIT);
        Check.due("as many as there can be", x.idle(35), 39);
        Check.due("all", x.count(1), 999);
        Check.due("no more", x.idle(1), Check.LIMIT);
    }
}
