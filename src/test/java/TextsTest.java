/** Promises 19 to 22: type, clearText, fault, play. */
public final class TextsTest {
    public static void main(String[] args) {
        promise19Type();
        promise20ClearText();
        promise21FaultNone();
        promise21FaultForm();
        promise21FaultStage();
        promise21FaultRange();
        promise21FaultFirst();
        promise21FaultWrong();
        promise22Play();
        promise22PlayReferences();
        promise22PlayFaults();
        promise22PlayLimit();
        Check.end();
    }

    private static void promise19Type() {
        ChargeLines x = new ChargeLines();
        int[] wrong = {31, 127, -1, 0, 10, Integer.MIN_VALUE, Integer.MAX_VALUE, 65536 + 's'};
        for (int character : wrong) {
            Check.due("type " + character, x.type(character), Check.INVALID);
        }
        Check.due("nothing typed", x.count(8), 0);
        for (int i = 1; i <= 60; i++) {
            Check.due("type", x.type(i % 2 == 0 ? 32 : 126), i);
        }
        Check.due("no more", x.type(65), Check.LIMIT);
        Check.due("INVALID rather than LIMIT", x.type(31), Check.INVALID);
        Check.due("length", x.count(8), 60);
        Check.due("no change", x.count(7), 0);
    }

    private static void promise20ClearText() {
        ChargeLines x = new ChargeLines();
        Check.due("empty", x.clearText(), 0);
        Check.type(x, "abc");
        Check.due("had", x.clearText(), 3);
        Check.due("length", x.count(8), 0);
        Check.due("empty", x.clearText(), 0);
        Check.type(x, "s1;");
        Check.due("begins anew", x.play(), 1);
        Check.due("no change", x.count(7), 1);
    }

    private static void fault(int stages, String text, int position, int reason, int cause) {
        ChargeLines x = new ChargeLines();
        x.begin(stages);
        Check.type(x, text);
        Check.due("fault 0 of " + text, x.fault(0), position);
        Check.due("fault 1 of " + text, x.fault(1), reason);
        Check.due("fault 2 of " + text, x.fault(2), cause);
        Check.due("fault 3 of " + text, x.fault(3), Check.INVALID);
        Check.due("fault again of " + text, x.fault(0), position);
        Check.due("length of " + text, x.count(8), text.length());
        Check.due("play of " + text, x.play(), Check.NOT_POSSIBLE);
        Check.due("nothing recorded by " + text, x.count(7), 1);
        Check.due("nothing given by " + text, x.count(1), 0);
    }

    private static void promise21FaultNone() {
        String[] texts = {"", "s0;", "s10000;", "s00000;", "s00007;", "l0,0,0;", "l3,300,300;", "l1,00300,00001;",
            "s1;l2,3,4;s5;l0,1,2;"};
        for (String text : texts) {
            ChargeLines x = new ChargeLines();
            Check.type(x, text);
            for (int what = 0; what < 3; what++) {
                Check.due("fault " + what + " of " + text, x.fault(what), Check.NOT_FOUND);
            }
            Check.holds("play of " + text, x.play() >= 0);
        }
    }

    private static void promise21FaultForm() {
        String[] texts = {"x", ";", " s1;", "S1;", "s", "s;", "s1", "s12345", "s123456;", "s1 ;", "s-1;", "s+1;", "s1,",
            "s1,2;", "s/;", "s:;", "l", "l;", "l,", "l0", "l00,0,0;", "l0;", "l0,", "l0,;", "l0,,0;", "l0,1", "l0,1;",
            "l0,12345", "l0,123456,0;", "l0,1,", "l0,1,;", "l0,1,2", "l0,1,2,", "l0,1,234567;", "lx,1,2;", "l1.1,2;",
            "0", "1s;", ";s1;"};
        int[] causes = {0, 0, 0, 0, 1, 1, 2, 6, 6, 2, 1, 1, 2,
            2, 1, 1, 1, 1, 1, 2, 2, 2, 3, 3, 3, 4, 4,
            8, 8, 5, 5, 6, 6, 10, 1, 2,
            0, 0, 0};
        Check.due("as many causes", causes.length, texts.length);
        for (int i = 0; i < texts.length; i++) {
            fault(4, texts[i], 0, 1, causes[i]);
            fault(4, "s1;l0,0,0;" + texts[i], 10, 1, causes[i]);
        }
        fault(4, "s1;;", 3, 1, 0);
        fault(4, "s1; s2;", 3, 1, 0);
        fault(4, "s10000;s100000;", 7, 1, 6);
    }

    private static void promise21FaultStage() {
        fault(4, "l4,0,0;", 0, 2, Check.NOT_FOUND);
        fault(4, "l9,999,999;", 0, 2, Check.NOT_FOUND);
        fault(2, "s3;l2,0,0;", 3, 2, Check.NOT_FOUND);
        fault(9, "l8,0,0;l9,0,0;", 7, 2, Check.NOT_FOUND);
        fault(4, "l4,0,0", 0, 1, 6);
        ChargeLines x = new ChargeLines();
        Check.type(x, "l9,1,2;");
        Check.due("there is no stage 9", x.fault(1), 2);
        x.begin(10);
        Check.due("there is one", x.fault(1), Check.NOT_FOUND);
        Check.due("play", x.play(), 1);
        Check.due("set", x.stageOf(9, 2), 2);
        x.undo();
        x.undo();
        Check.due("there is none again", x.fault(1), 2);
    }

    private static void promise21FaultRange() {
        fault(4, "s10001;", 0, 3, 0);
        fault(4, "s99999;", 0, 3, 0);
        fault(4, "l0,301,0;", 0, 3, 1);
        fault(4, "l0,301,301;", 0, 3, 1);
        fault(4, "l0,300,301;", 0, 3, 2);
        fault(4, "l3,00000,99999;", 0, 3, 2);
        fault(4, "s10000;l3,300,300;s10001;", 18, 3, 0);
    }

    private static void promise21FaultFirst() {
        fault(4, "s10001;l4,0,0;x", 0, 3, 0);
        fault(4, "s1;l4,0,0;s10001;x", 3, 2, Check.NOT_FOUND);
        fault(4, "s1;x;l4,0,0;s10001;", 3, 1, 0);
        fault(4, "s1;s2;s3;s4;s5;s6;s7;s8;s9;s0;s1;s2;s3;s4;s5;s6;s7;s8;s9;s00", 57, 1, 3);
        ChargeLines x = new ChargeLines();
        Check.type(x, "s1");
        Check.due("no end yet", x.fault(2), 2);
        Check.type(x, "2");
        Check.due("no end yet", x.fault(2), 3);
        Check.type(x, ";");
        Check.due("none", x.fault(0), Check.NOT_FOUND);
        x.clearText();
        Check.type(x, "s1");
        Check.due("what was cleared is gone", x.fault(2), 2);
        Check.type(x, ";l0,1,2");
        x.clearText();
        Check.type(x, "s1;l");
        Check.due("what was cleared is gone", x.fault(0), 3);
        Check.due("what was cleared is gone", x.fault(2), 1);
    }

    private static void promise21FaultWrong() {
        ChargeLines x = new ChargeLines();
        Check.due("what 3", x.fault(3), Check.INVALID);
        Check.due("what -1", x.fault(-1), Check.INVALID);
        Check.due("far", x.fault(Integer.MIN_VALUE), Check.INVALID);
        Check.due("none", x.fault(0), Check.NOT_FOUND);
        Check.due("none", x.fault(1), Check.NOT_FOUND);
        Check.due("none", x.fault(2), Check.NOT_FOUND);
    }

    private static void promise22Play() {
        ChargeLines x = new ChargeLines();
        Check.due("no parts", x.play(), 0);
        Check.due("one change", x.count(7), 1);
        Check.type(x, "s00500;l0,100,00020;s7;");
        Check.due("three parts", x.play(), 3);
        Check.due("one change", x.count(7), 2);
        Check.due("the text stays", x.count(8), 23);
        Check.due("two hand-overs", x.count(1), 2);
        // 500: 50 stay; of 450 leak 9; 441 move.
        Check.due("in their order", x.stageOf(0, 0), 57);
        Check.due("in their order", x.stageOf(1, 0), 441);
        Check.due("shares", x.stageOf(0, 2), 20);
        Check.due("again", x.play(), 3);
        Check.due("hand-overs", x.count(1), 4);
        Check.due("undo", x.undo(), 2);
        Check.due("undone at once", x.count(1), 2);
        Check.due("undo", x.undo(), 1);
        Check.due("undone at once", x.stageOf(0, 1), 0);
        Check.due("undo", x.undo(), 0);
        x.clearText();
        Check.type(x, "s1;s2;s3;s4;s5;s6;s7;s8;s9;s0;s1;s2;s3;s4;s5;s6;s7;s8;s9;s0;");
        Check.due("twenty parts", x.play(), 20);
        Check.due("twenty samples", x.count(1), 20);
        Check.due("given", x.account(0), 90);
    }

    private static void promise22PlayReferences() {
        ChargeLines x = Check.line(2, 20000, 2);
        Check.type(x, "s1;s2;l1,0,0;s3;");
        Check.due("four parts", x.play(), 4);
        Check.due("references among them", x.count(1), 6);
        Check.due("in turn", x.count(5), 0);
        Check.due("the sample of 4000", x.outputOf(1, 1), 4000);
    }

    private static void promise22PlayFaults() {
        ChargeLines x = new ChargeLines();
        Check.type(x, "s1;l0,9,9;s10001;");
        Check.due("a fault", x.play(), Check.NOT_POSSIBLE);
        Check.due("nothing given", x.count(1), 0);
        Check.due("no shares", x.stageOf(0, 1), 0);
        Check.due("nothing recorded", x.count(7), 0);
        Check.due("the text stays", x.count(8), 17);
        for (int i = 0; i < 24; i++) {
            x.idle(40);
        }
        x.idle(39);
        Check.due("NOT_POSSIBLE rather than LIMIT", x.play(), Check.NOT_POSSIBLE);
    }

    private static void promise22PlayLimit() {
        ChargeLines x = new ChargeLines();
        for (int i = 0; i < 24; i++) {
            x.idle(40);
        }
        x.idle(37);
        Check.type(x, "s1;s2;l0,0,0;s3;");
        Check.due("one too many", x.play(), Check.LIMIT);
        Check.due("nothing given", x.count(1), 997);
        Check.due("nothing recorded", x.count(7), 4);
        x.clearText();
        Check.type(x, "s1;l0,5,5;s2;");
        x.set(1, 2);
        x.set(1, 12);
        Check.due("as many as there can be", x.play(), 3);
        Check.due("all", x.count(1), 999);
        Check.due("no more", x.play(), Check.LIMIT);
        x.clearText();
        Check.type(x, "l0,6,6;");
        Check.due("no sample", x.play(), 1);
        Check.due("shares", x.stageOf(0, 1), 6);
        x.undo();
        x.undo();
        x.set(1, 7);
        x.clearText();
        Check.type(x, "s1;s2;");
        // 997 is for none, but 994 and 1001 are; so the two are 997 and 998.
        Check.due("997 and 998", x.play(), 2);
        x.undo();
        x.set(1, 2);
        Check.due("997, a reference at 998 and 999", x.play(), Check.LIMIT);
    }
}
