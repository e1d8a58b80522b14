/** Promises 13 to 18: echo, emptyAfter, worn, safe, count, undo. */
public final class WouldBeTest {
    public static void main(String[] args) {
        promise13Echo();
        promise13EchoLeavesTheLine();
        promise13EchoWrong();
        promise14EmptyAfter();
        promise15Worn();
        promise15WornSpills();
        promise15WornWrong();
        promise16Safe();
        promise16SafeFortyTimes();
        promise17Count();
        promise17CountWrong();
        promise18Undo();
        promise18UndoEverything();
        promise18UndoFourStates();
        Check.end();
    }

    private static void promise13Echo() {
        ChargeLines x = Check.line(3, 20000, 0);
        x.stage(2, 250, 100);
        Check.due("before it comes out", x.echo(4001, 1), 0);
        Check.due("before it comes out", x.echo(4001, 2), 0);
        // 4001: 1000 stay; of 3001 leak 300; 2701 come out. Then of 1000: 250 stay, 75 leak, 675.
        Check.due("it comes out", x.echo(4001, 3), 2701);
        Check.due("what stayed", x.echo(4001, 4), 675);
        // 250: 62 stay; of 188 leak 18; 170.
        Check.due("what stayed of this", x.echo(4001, 5), 170);
        Check.due("at last", x.echo(4001, 40), 0);
        Check.due("nothing", x.echo(0, 3), 0);
        x.set(0, 1000);
        Check.due("spilled", x.echo(4001, 3), 675);
        Check.due("spilled", x.echo(10000, 3), 675);
        x.stage(0, 300, 0);
        // Of 1000 in stage 0, 300 stay and follow behind the 700.
        Check.due("less comes at once", x.echo(10000, 3), 473);
    }

    private static void promise13EchoLeavesTheLine() {
        ChargeLines x = Check.line(2, 20000, 1);
        x.give(500);
        x.give(600);
        int kept = x.outputOf(0, 2);
        Check.due("without references, of an empty line", x.echo(10, 2), 10);
        Check.due("without references, of an empty line", x.echo(10, 3), 0);
        Check.due("no hand-over", x.count(1), 4);
        Check.due("no output", x.outputOf(0, 2), kept);
        Check.due("no change", x.count(7), 4);
        Check.due("no charge", x.account(0), 1000 + 500 + 4000 + 600);
        Check.due("no charge", x.stageOf(0, 0), 600);
        x.stage(1, 300, 0);
        x.give(9000);
        Check.due("nothing of what is there", x.echo(100, 2), 70);
        Check.due("nothing of what is there", x.echo(0, 1), 0);
        Check.due("nothing of what is there", x.worn(1), 10000);
        Check.due("it is there", x.stageOf(1, 0) > 0 ? 1 : 0, 1);
    }

    private static void promise13EchoWrong() {
        ChargeLines x = new ChargeLines();
        int[][] wrong = {{-1, 1}, {10001, 1}, {0, 0}, {0, 41}, {0, -1}, {Integer.MAX_VALUE, Integer.MIN_VALUE}};
        for (int[] arguments : wrong) {
            Check.due("echo", x.echo(arguments[0], arguments[1]), Check.INVALID);
        }
        Check.due("most", x.echo(10000, 4), 10000);
        Check.due("latest", x.echo(10000, 40), 0);
    }

    private static void promise14EmptyAfter() {
        ChargeLines x = Check.line(3, 20000, 0);
        Check.due("empty", x.emptyAfter(), 0);
        x.give(1);
        Check.due("as many as stages", x.emptyAfter(), 3);
        x.give(0);
        Check.due("one less", x.emptyAfter(), 2);
        x.set(1, 1);
        Check.due("without references", x.emptyAfter(), 2);
        x.begin(3);
        x.set(1, 0);
        x.stage(2, 300, 0);
        x.give(1000);
        // In stage 2 behind two: 1000, 300, 90, 27, 8, 2, 0.
        Check.due("what stays goes on", x.emptyAfter(), 8);
        Check.due("no change", x.count(1), 1);
        x.idle(7);
        Check.due("one more", x.emptyAfter(), 1);
        x.idle(1);
        Check.due("empty", x.emptyAfter(), 0);
        Check.due("empty", x.account(4), 0);
        slowest();
    }

    private static void slowest() {
        ChargeLines x = Check.line(10, 100000, 0);
        for (int stage = 0; stage < 10; stage++) {
            x.stage(stage, 300, 0);
        }
        x.idle(10);
        x.give(10000);
        int many = x.emptyAfter();
        Check.holds("within 400", many >= 10 && many <= 400);
        for (int left = many; left > 0; left--) {
            Check.due("left", x.emptyAfter(), left);
            Check.holds("not empty", x.account(4) > 0);
            x.idle(1);
        }
        Check.due("empty", x.account(4), 0);
    }

    private static void promise15Worn() {
        ChargeLines x = new ChargeLines();
        Check.due("of several the lowest", x.worn(0), 0);
        Check.due("nothing lost", x.worn(1), 10000);
        x.stage(2, 0, 100);
        Check.due("the only one", x.worn(0), 2);
        Check.due("without it", x.worn(1), 10000);
        x.stage(1, 0, 101);
        Check.due("more worn", x.worn(0), 1);
        Check.due("without it", x.worn(1), 9000);
        x.stage(3, 102, 0);
        Check.due("what stays counts, too", x.worn(0), 3);
        // 10000 less 1010 are 8990, less 899 are 8091.
        Check.due("without it", x.worn(1), 8091);
        Check.due("the shares are there still", x.stageOf(3, 1), 102);
        Check.due("no change", x.count(7), 3);
        x.begin(2);
        Check.due("of the stages there are", x.worn(0), 1);
        x.stage(0, 0, 101);
        Check.due("of the same the lowest", x.worn(0), 0);
        Check.due("the output at the number of stages", x.worn(1), 8990);
        x.give(777);
        Check.due("of an empty line", x.worn(1), 8990);
        x.begin(10);
        Check.due("of ten stages", x.worn(0), 0);
        x.stage(9, 0, 200);
        Check.due("the tenth", x.worn(0), 9);
        // 8990 of 10000 leave stage 0, and 8083 of these stage 1.
        Check.due("the tenth", x.worn(1), 8083);
    }

    private static void promise15WornSpills() {
        ChargeLines x = Check.line(2, 1000, 0);
        x.stage(0, 0, 100);
        x.stage(1, 0, 200);
        Check.due("by the capacity", x.worn(1), 900);
        Check.due("worn most", x.worn(0), 1);
    }

    private static void promise15WornWrong() {
        ChargeLines x = new ChargeLines();
        Check.due("what 2", x.worn(2), Check.INVALID);
        Check.due("what -1", x.worn(-1), Check.INVALID);
        Check.due("far", x.worn(Integer.MAX_VALUE), Check.INVALID);
    }

    private static void promise16Safe() {
        ChargeLines x = new ChargeLines();
        Check.due("most", x.safe(), 10000);
        x.set(0, 9999);
        Check.due("the capacity", x.safe(), 9999);
        x.set(0, 1000);
        Check.due("the capacity", x.safe(), 1000);
        x.stage(0, 300, 0);
        // A charge of 1000 keeps 300, and 700 come again.
        Check.due("what stays takes room", x.safe(), 700);
        x.stage(0, 300, 300);
        Check.due("what leaks goes out of what moves", x.safe(), 700);
        x.give(10000);
        x.set(1, 1);
        Check.due("of an empty line, without references", x.safe(), 700);
        x.stage(0, 0, 300);
        x.stage(1, 300, 0);
        // 70 of 100 reach stage 1, and it holds 1000 with 700 coming again; stage 0 holds 1000.
        Check.due("a later stage", x.safe(), 1000);
        x.stage(0, 0, 0);
        Check.due("a later stage", x.safe(), 700);
        Check.due("no change", x.count(7), 4);
    }

    private static void promise16SafeFortyTimes() {
        ChargeLines x = Check.line(10, 1000, 0);
        x.stage(9, 300, 0);
        Check.due("the last stage", x.safe(), 700);
        for (int shares = 0; shares <= 300; shares += 37) {
            ChargeLines y = Check.line(10, 5000, 0);
            for (int stage = 0; stage < 10; stage++) {
                y.stage(stage, shares, shares * stage / 10);
            }
            int safe = y.safe();
            Check.due("spilled by it", spilledByForty(y, safe), 0);
            Check.holds("spilled by more", spilledByForty(y, safe + 1) > 0);
        }
    }

    private static int spilledByForty(ChargeLines lines, int sample) {
        lines.begin(10);
        for (int i = 0; i < 40; i++) {
            lines.give(sample);
        }
        return lines.account(3);
    }

    private static void promise17Count() {
        ChargeLines x = Check.line(2, 5000, 2);
        x.give(1);
        x.give(1);
        x.give(1);
        Check.type(x, "s1;");
        // Numbers: 0 reference 0, 1 sample, 2 reference 1, 3 sample, 4 reference 2, 5 sample.
        int[] due = {2, 6, 4, 3, 2, 0, 1, 4, 3};
        for (int what = 0; what < due.length; what++) {
            Check.due("count " + what, x.count(what), due[what]);
        }
        int[] settings = {5000, 2, 1000, 4000, 9000};
        for (int what = 0; what < settings.length; what++) {
            Check.due("count setting " + what, x.count(20 + what), settings[what]);
        }
        x.set(1, 4);
        Check.due("6 cannot be divided by 4", x.count(6), 0);
        x.set(1, 3);
        Check.due("6 can be divided by 3", x.count(6), 1);
        x.set(1, 0);
        Check.due("no references", x.count(6), 0);
        Check.due("references that were", x.count(3), 3);
        x.idle(40);
        Check.due("at most 16", x.count(2), 16);
        Check.due("all known", x.count(4), 3);
        Check.due("at most 4", x.count(7), 4);
    }

    private static void promise17CountWrong() {
        ChargeLines x = new ChargeLines();
        int[] wrong = {-1, 9, 10, 19, 25, Integer.MIN_VALUE, Integer.MAX_VALUE};
        for (int what : wrong) {
            Check.due("count " + what, x.count(what), Check.INVALID);
        }
    }

    private static void promise18Undo() {
        ChargeLines x = new ChargeLines();
        Check.due("nothing", x.undo(), Check.NOT_POSSIBLE);
        x.give(100);
        x.idle(2);
        x.stage(0, 1, 2);
        Check.due("undo stage", x.undo(), 2);
        Check.due("undone", x.stageOf(0, 1), 0);
        Check.due("undo idle", x.undo(), 1);
        Check.due("undone", x.count(1), 1);
        Check.due("undone", x.stageOf(0, 0), 100);
        x.give(200);
        Check.due("undo give", x.undo(), 1);
        Check.due("undone", x.account(0), 100);
        Check.due("undo give", x.undo(), 0);
        Check.due("undone", x.account(0), 0);
        Check.due("nothing", x.undo(), Check.NOT_POSSIBLE);
    }

    /** Each kind of change is undone on an object of its own, by the looks of which none is used for too many calls. */
    private static void promise18UndoEverything() {
        Run line = Run.of("begin 2", "set 0 1000", "set 1 2", "stage 1 100 200");
        for (int i = 0; i < 9; i++) {
            line = line.and("give " + 500 * i);
        }
        line = line.and("text s5;l0,7,8;s6;");
        String[] changes = {"begin 5", "set 0 7777", "stage 0 7 8", "give 10000", "idle 30", "play"};
        for (String change : changes) {
            Check.due("states behind " + change, line.and(change).answer("undo"), 3);
            Check.holds("all as before " + change, line.and(change, "undo").looks().equals(line.looks()));
        }
        Check.holds("all as before two changes", line.and("set 1 0", "idle 40", "undo", "undo").looks()
                .equals(line.looks()));
        Check.due("the text is not restored", line.and("play", "clearText", "undo").answer("count 8"), 0);
    }

    private static void promise18UndoFourStates() {
        ChargeLines x = new ChargeLines();
        for (int i = 1; i <= 7; i++) {
            x.give(i);
            Check.due("states", x.count(7), Math.min(i, 4));
        }
        for (int left = 3; left >= 0; left--) {
            Check.due("undo", x.undo(), left);
            Check.due("undone", x.count(1), 3 + left);
        }
        Check.due("the oldest were dropped", x.undo(), Check.NOT_POSSIBLE);
        Check.due("hand-overs", x.count(1), 3);
        x.give(-1);
        x.set(9, 9);
        x.begin(1);
        x.idle(0);
        x.stage(0, 0, 999);
        Check.due("errors are no changes", x.undo(), Check.NOT_POSSIBLE);
        x.type('x');
        x.play();
        x.clearText();
        x.echo(1, 1);
        Check.due("texts and answers are no changes", x.undo(), Check.NOT_POSSIBLE);
    }
}
