import java.io.IOException;

/** The edges of "Texts" and of the promises 19 to 22: a test for each sentence. */
public final class TextsEdgesTest {
    private static final String SIXTY = "s1;s2;s3;s4;s5;s6;s7;s8;s9;s0;s1;s2;s3;s4;s5;s6;s7;s8;s9;s0;";

    public static void main(String[] args) throws IOException {
        texts();
        faults();
        promises19And20();
        promise21();
        promise22();
        Check.end(args);
    }

    private static void texts() {
        atMostSixty();
        partsAndTheirEnds();
        samplesInAText();
        sharesInAText();
        oneToFiveDigits();
        aStageOfOne();
    }

    private static void faults() {
        positionOfTheFirst();
        positionAtTheEnd();
        reasonsInTheirOrder();
        noSuchStage();
        outOfRange();
        breaksOff();
        endsTooEarly();
        whichOfItsNumbers();
    }

    private static void promises19And20() {
        promise19Characters();
        promise19Length();
        promise19Limit();
        promise20();
    }

    private static void promise21() {
        promise21Refused();
        promise21NoFault();
        promise21NoCause();
        promise21NothingIsLeft();
        promise21OfTheStagesThereAre();
    }

    private static void promise22() {
        promise22NoParts();
        promise22HowMany();
        promise22InTheirOrder();
        promise22OneChange();
        promise22Fault();
        promise22Limit();
        promise22LimitOfReferences();
    }

    private static Run typed(String text) {
        return Run.of("text " + text);
    }

    private static void fine(String text, int parts) {
        typed(text).due("fault 0", Check.NOT_FOUND).due("fault 1", Check.NOT_FOUND).due("fault 2", Check.NOT_FOUND)
                .due("play", parts);
    }

    private static void faulty(Run run, int position, int reason, int cause) {
        run.due("fault 0", position).due("fault 1", reason).due("fault 2", cause).due("play", Check.NOT_POSSIBLE);
    }

    private static void faulty(String text, int position, int reason, int cause) {
        faulty(typed(text), position, reason, cause);
    }

    private static void atMostSixty() {
        Check.sentence("There is a text of at most 60 characters, initially empty:");
        Run.of().due("count 8", 0).due("clearText", 0).due("fault 0", Check.NOT_FOUND).due("play", 0);
        Run almost = typed(SIXTY.substring(0, 59));
        almost.due("count 8", 59).due("type 59", 60);
        typed(SIXTY).due("count 8", 60).due("play", 20).refuses("type 59", Check.LIMIT);
        // The last character counts: the 20th part has no end without it.
        faulty(almost, 57, 1, 2);
    }

    private static void partsAndTheirEnds() {
        Check.sentence("parts, each followed by \";\":");
        fine("s1;", 1);
        fine("l0,1,2;", 1);
        fine("s1;s2;", 2);
        faulty("s1", 0, 1, 2);
        faulty("s1;s2", 3, 1, 2);
        faulty(";", 0, 1, 0);
        faulty("s1;;", 3, 1, 0);
        faulty("s1;;s2;", 3, 1, 0);
        faulty("s1,s2;", 0, 1, 2);
        faulty("s1s2;", 0, 1, 2);
        faulty(" s1;", 0, 1, 0);
        faulty("s1; s2;", 3, 1, 0);
        faulty("s1; ", 3, 1, 0);
    }

    private static void samplesInAText() {
        Check.sentence("\"s\" and a number (a sample is given),");
        typed("s0;").and("play").due("count 1", 1).due("stageOf 0 0", 0);
        typed("s10000;").and("play").due("count 1", 1).due("stageOf 0 0", 10000);
        faulty("s10001;", 0, 3, 0);
        typed("s7;").and("set 1 1", "play").due("count 1", 2).due("stageOf 0 0", 7).due("stageOf 1 0", 1000);
    }

    private static void sharesInAText() {
        Check.sentence("or \"l\", a stage, \",\", a number, \",\", a number (the shares of a stage that stay and leak);");
        typed("l0,0,300;").and("play").due("stageOf 0 1", 0).due("stageOf 0 2", 300).due("count 1", 0);
        typed("l3,300,0;").and("play").due("stageOf 3 1", 300).due("stageOf 3 2", 0).due("stageOf 0 1", 0);
        Run.of("stage 1 5 6", "text l1,0,0;", "play").due("stageOf 1 1", 0).due("stageOf 1 2", 0);
        faulty("l0,301,0;", 0, 3, 1);
        faulty("l0,0,301;", 0, 3, 2);
        faulty("l4,0,0;", 0, 2, Check.NOT_FOUND);
        Run.of("begin 10", "text l9,1,2;", "play").due("stageOf 9 1", 1).due("stageOf 9 2", 2);
    }

    private static void oneToFiveDigits() {
        Check.sentence("numbers of 1 to 5 digits, 0 ahead allowed,");
        fine("s5;s05;s005;s0005;s00005;", 5);
        typed("s00005;s00000;").and("play").due("stageOf 1 0", 5).due("stageOf 0 0", 0);
        fine("s10000;", 1);
        faulty("s;", 0, 1, 1);
        faulty("s000005;", 0, 1, 6);
        faulty("s000000;", 0, 1, 6);
        faulty("s100000;", 0, 1, 6);
        fine("l0,1,2;l0,01,02;l0,001,0002;l0,00300,00300;", 4);
        typed("l0,00300,00299;").and("play").due("stageOf 0 1", 300).due("stageOf 0 2", 299);
        faulty("l0,,0;", 0, 1, 3);
        faulty("l0,0,;", 0, 1, 5);
        faulty("l0,000000,0;", 0, 1, 8);
        faulty("l0,0,000000;", 0, 1, 10);
        faulty("s-1;", 0, 1, 1);
        faulty("s+1;", 0, 1, 1);
        // "/" and ":" are the characters beside the digits.
        faulty("s/;", 0, 1, 1);
        faulty("s:;", 0, 1, 1);
        faulty("s1/;", 0, 1, 2);
        faulty("s1:;", 0, 1, 2);
        fine("s9;s0;", 2);
    }

    private static void aStageOfOne() {
        Check.sentence("a stage of one.");
        fine("l0,0,0;", 1);
        fine("l3,0,0;", 1);
        faulty("l00,0,0;", 0, 1, 2);
        faulty("l03,0,0;", 0, 1, 2);
        faulty("l10,0,0;", 0, 1, 2);
        faulty("l,0,0;", 0, 1, 1);
        faulty("l-1,0,0;", 0, 1, 1);
        faulty(Run.of("begin 10", "text l10,0,0;"), 0, 1, 2);
    }

    private static void positionOfTheFirst() {
        Check.sentence("The fault of the text is the position, from 0, of the first character of the first part that is "
                + "not possible;");
        faulty("x", 0, 1, 0);
        faulty("s1;x", 3, 1, 0);
        faulty("s10001;l4,0,0;x", 0, 3, 0);
        faulty("s1;l4,0,0;s10001;x", 3, 2, Check.NOT_FOUND);
        faulty("s1;l0,0,0;s10001;x", 10, 3, 0);
        faulty("s1;l0,0,0;s10000;x", 17, 1, 0);
        // The fault is known before what is behind it.
        faulty("s1;x;s2;", 3, 1, 0);
    }

    private static void positionAtTheEnd() {
        Check.sentence("The fault of the text is the position, from 0, of the first character of the first part that is "
                + "not possible;");
        faulty(SIXTY.substring(0, 57) + "s00", 57, 1, 3);
        faulty(SIXTY.substring(0, 57) + "s0l", 57, 1, 2);
        faulty(SIXTY.substring(0, 59) + "0", 57, 1, 3);
        faulty(SIXTY.substring(0, 54) + "s00009", 54, 1, 6);
        faulty("l0,0,0;" + SIXTY.substring(0, 51) + "s1", 58, 1, 2);
        faulty("s0001;s00001;" + SIXTY.substring(0, 45) + "s1", 58, 1, 2);
        faulty(("s001;" + SIXTY).substring(0, 59) + "x", 59, 1, 0);
        faulty(SIXTY.substring(0, 53) + "s10001;", 51, 1, 2);
        faulty(SIXTY.substring(0, 51) + "ss10001;", 51, 1, 1);
        faulty("s01;s01;" + SIXTY.substring(0, 45) + "s10001;", 53, 3, 0);
    }

    private static void reasonsInTheirOrder() {
        Check.sentence("its reason is the first of these: 1 it is not of this form, its \";\" included; 2 there is no such "
                + "stage; 3 a number is out of its range;");
        faulty("l9,999,999", 0, 1, 10);
        faulty("l9,999,999;", 0, 2, Check.NOT_FOUND);
        faulty("l4,301,301;", 0, 2, Check.NOT_FOUND);
        faulty("l3,301,301;", 0, 3, 1);
        faulty("l9,0,0", 0, 1, 6);
        faulty("l9,0,0,", 0, 1, 6);
        faulty("l9,1,2x", 0, 1, 6);
        faulty("s10001", 0, 1, 6);
        faulty("s99999,", 0, 1, 6);
        faulty("s99999;", 0, 3, 0);
    }

    private static void noSuchStage() {
        Check.sentence("2 there is no such stage;");
        for (int n = 2; n <= 9; n++) {
            faulty(Run.of("begin " + n, "text l" + n + ",0,0;"), 0, 2, Check.NOT_FOUND);
            Run.of("begin " + n, "text l" + (n - 1) + ",0,0;").due("fault 0", Check.NOT_FOUND).due("play", 1);
        }
        Run.of("begin 10", "text l9,0,0;").due("fault 0", Check.NOT_FOUND);
        faulty(Run.of("begin 9", "text l9,0,0;"), 0, 2, Check.NOT_FOUND);
    }

    private static void outOfRange() {
        Check.sentence("3 a number is out of its range;");
        fine("s10000;l3,300,300;", 2);
        faulty("s10001;", 0, 3, 0);
        faulty("s99999;", 0, 3, 0);
        faulty("l0,301,0;", 0, 3, 1);
        faulty("l0,99999,0;", 0, 3, 1);
        faulty("l0,300,301;", 0, 3, 2);
        faulty("l0,0,99999;", 0, 3, 2);
        // What is too great for shares is none too great for a sample.
        fine("s301;", 1);
        faulty("l0,0,0;s10001;", 7, 3, 0);
        faulty("s10000;l0,300,300;l0,301,300;", 18, 3, 1);
    }

    private static void breaksOff() {
        Check.sentence("its cause is with the reason 1 at which character of the part, from 0, it breaks off");
        String[] good = {"s12345;", "l3,12345,12345;"};
        for (String part : good) {
            for (int at = 0; at < part.length(); at++) {
                String broken = part.substring(0, at) + "x" + part.substring(at + 1);
                faulty(broken, 0, 1, at);
                faulty("s1;" + broken, 3, 1, at);
            }
        }
        faulty("S1;", 0, 1, 0);
        faulty("1;", 0, 1, 0);
        faulty("l1;2;3;", 0, 1, 2);
        faulty("l1,2;3;", 0, 1, 4);
        faulty("l1,2,3,", 0, 1, 6);
        faulty("s1234567;", 0, 1, 6);
        faulty("l0,123456,1;", 0, 1, 8);
        faulty("l12,3,4;", 0, 1, 2);
    }

    private static void endsTooEarly() {
        Check.sentence("(of one that the text ends too early it is its length)");
        String[] good = {"s12345;", "l3,00300,00300;", "l0,0,0;"};
        for (String part : good) {
            for (int length = 1; length < part.length(); length++) {
                faulty(part.substring(0, length), 0, 1, length);
                faulty("s1;" + part.substring(0, length), 3, 1, length);
            }
        }
        // What was typed before does not end it, either.
        Run cleared = typed("s1;s2;").and("clearText", "text s");
        faulty(cleared, 0, 1, 1);
        faulty(typed("l0,1,2;").and("clearText", "text l0,1"), 0, 1, 4);
        faulty(typed(SIXTY).and("clearText", "text s1;s2"), 3, 1, 2);
    }

    private static void whichOfItsNumbers() {
        Check.sentence("with the reason 3 which of its numbers it is, from 0, the first one (of \"l\" the stage is the "
                + "number 0, what stays 1, what leaks 2).");
        faulty("s10001;", 0, 3, 0);
        faulty("l0,301,0;", 0, 3, 1);
        faulty("l0,301,301;", 0, 3, 1);
        faulty("l0,0,301;", 0, 3, 2);
        faulty("l3,00300,00301;", 0, 3, 2);
    }

    private static void promise19Characters() {
        Check.sentence("- `character`: 32 to 126");
        Run run = Run.of("give 4", "text s5;");
        run.refuses("type 31", Check.INVALID).refuses("type 127", Check.INVALID).refuses("type 0", Check.INVALID)
                .refuses("type -1", Check.INVALID).refuses("type 10", Check.INVALID)
                .refuses("type least", Check.INVALID).refuses("type most", Check.INVALID);
        // As characters these would be "s" and ";".
        run.refuses("type " + (65536 + 's'), Check.INVALID).refuses("type " + (256 + ';'), Check.INVALID);
        for (int character = 32; character <= 126; character++) {
            run.due("type " + character, 4);
        }
    }

    private static void promise19Length() {
        Check.sentence("`int type(int character)`: Appends a character to the text.");
        Run run = Run.of();
        for (int length = 1; length <= 60; length++) {
            run.due("type 32", length);
            run = run.and("type 126").due("count 8", length);
        }
        run.due("count 7", 0);
    }

    private static void promise19Limit() {
        Check.sentence("Returns the length of the text; INVALID_ARGUMENT if character is out of range; LIMIT_REACHED if "
                + "it has 60 characters.");
        Run full = Run.of("give 3").and("text " + SIXTY);
        full.refuses("type 32", Check.LIMIT).refuses("type 126", Check.LIMIT).refuses("type 31", Check.INVALID)
                .refuses("type 127", Check.INVALID);
        full.and("clearText").due("type 32", 1);
        typed(SIXTY.substring(0, 59)).due("type 32", 60);
    }

    private static void promise20() {
        Check.sentence("Returns the length it had.");
        Run.of().due("clearText", 0);
        typed("s").due("clearText", 1).and("clearText").due("clearText", 0).due("count 8", 0);
        typed(SIXTY).due("clearText", 60).and("clearText").due("count 8", 0).due("fault 0", Check.NOT_FOUND)
                .due("play", 0).due("count 7", 0);
        typed("x").and("clearText", "text s5;").due("play", 1).due("fault 0", Check.NOT_FOUND);
    }

    private static void promise21Refused() {
        Check.sentence("- `what`: 0: its position; 1: its reason; 2: its cause");
        Check.sentence("Returns that; INVALID_ARGUMENT if what is out of range;");
        Run[] runs = {Run.of("give 4"), typed("s1;"), typed("x"), typed("l9,1,1;")};
        for (Run run : runs) {
            run.refuses("fault -1", Check.INVALID).refuses("fault 3", Check.INVALID)
                    .refuses("fault least", Check.INVALID).refuses("fault most", Check.INVALID);
        }
    }

    private static void promise21NoFault() {
        Check.sentence("NOT_FOUND if the text has no fault (also if it is empty),");
        Run[] runs = {Run.of(), Run.of("text x", "clearText"), typed("s1;"), typed(SIXTY), typed("l3,300,300;")};
        for (Run run : runs) {
            run.refuses("fault 0", Check.NOT_FOUND).refuses("fault 1", Check.NOT_FOUND)
                    .refuses("fault 2", Check.NOT_FOUND);
        }
    }

    private static void promise21NoCause() {
        Check.sentence("for 2 if the reason is 2.");
        typed("l4,0,0;").due("fault 0", 0).due("fault 1", 2).refuses("fault 2", Check.NOT_FOUND);
        typed("s1;l9,999,0;").due("fault 0", 3).due("fault 1", 2).refuses("fault 2", Check.NOT_FOUND);
        // Nor is there one left of what was asked before.
        typed("s10001;").and("fault 2", "clearText", "text l4,0,0;").due("fault 2", Check.NOT_FOUND);
    }

    private static void promise21NothingIsLeft() {
        Check.sentence("`int fault(int what)`: Tells about the fault of the text.");
        String[] faults = {"l0,99999,99999;", "l9,99999,99999;", "s99999;", "l0,99999,99999", "x"};
        for (String before : faults) {
            Run cleared = typed(before).and("?fault 0", "?fault 1", "?fault 2", "?play", "clearText");
            cleared.and("text s1;").due("fault 0", Check.NOT_FOUND).due("fault 2", Check.NOT_FOUND).due("play", 1);
            cleared.and("text l0,1,2;").due("fault 0", Check.NOT_FOUND).due("play", 1);
            cleared.due("fault 1", Check.NOT_FOUND).due("play", 0);
            faulty(cleared.and("text l0,1,301;"), 0, 3, 2);
            faulty(cleared.and("text s"), 0, 1, 1);
        }
    }

    private static void promise21OfTheStagesThereAre() {
        Check.sentence("2 there is no such stage;");
        Run text = typed("l4,1,2;");
        text.due("fault 1", 2).and("begin 5").due("fault 1", Check.NOT_FOUND).and("undo").due("fault 1", 2);
        text.and("begin 5", "play").due("stageOf 4 2", 2).and("begin 4").due("fault 1", 2);
        Run.of("begin 10").and("text l9,1,2;").due("fault 0", Check.NOT_FOUND).and("begin 9").due("fault 0", 0)
                .refuses("play", Check.NOT_POSSIBLE);
    }

    private static void promise22NoParts() {
        Check.sentence("They are one change, also if there are none.");
        Run.of().due("play", 0).and("play").due("count 7", 1).due("undo", 0).due("count 1", 0);
        Run.of().times(6, "play").due("count 7", 4);
        Run.of().idles(999).due("play", 0).and("play", "undo").due("count 1", 999);
        typed("s1;").and("clearText").due("play", 0);
    }

    private static void promise22HowMany() {
        Check.sentence("Returns how many there are in it;");
        typed("s1;").due("play", 1);
        typed("l0,0,0;").due("play", 1);
        typed("l0,0,0;l0,0,0;s1;").due("play", 3);
        typed(SIXTY).due("play", 20).and("play").due("count 1", 20).due("account 0", 90).due("count 8", 60)
                .due("play", 20).and("play").due("count 1", 40);
        Run.of("set 1 1").and("text " + SIXTY).due("play", 20).and("play").due("count 1", 40);
    }

    private static void promise22InTheirOrder() {
        Check.sentence("`int play()`: Does all parts of the text, which stays.");
        Run before = typed("l0,300,0;s10;s0;").and("play");
        before.due("stageOf 0 0", 3).due("stageOf 1 0", 7);
        Run behind = typed("s10;s0;l0,300,0;").and("play");
        behind.due("stageOf 0 0", 0).due("stageOf 1 0", 10).due("stageOf 0 1", 300);
        typed("l1,5,6;l1,7,8;").and("play").due("stageOf 1 1", 7).due("stageOf 1 2", 8);
        typed("l1,5,6;s3;s4;").and("play").same(typed("l1,5,6;s3;s4;").and("play", "?fault 0", "?give -1"),
                "what is refused or only asked");
    }

    private static void promise22OneChange() {
        Check.sentence("They are one change, also if there are none.");
        Run before = Run.of("give 5", "text s1;s2;l3,9,9;s3;s4;s5;");
        before.and("play").due("count 7", 2).due("count 1", 6).due("undo", 1);
        before.and("play", "undo").same(before, "as before play");
        before.and("play", "play", "play", "play").due("count 7", 4).and("undo", "undo", "undo", "undo")
                .due("count 1", 1).due("undo", Check.NOT_POSSIBLE);
    }

    private static void promise22Fault() {
        Check.sentence("NOT_POSSIBLE if it has a fault;");
        String[] faults = {"x", "s1;s", "s1;l4,0,0;", "s1;l0,9,9;s10001;", "l0,301,0;", ";", " "};
        for (String text : faults) {
            Run.of("give 4", "text " + text).refuses("play", Check.NOT_POSSIBLE);
            Run.of().idles(999).and("text " + text).refuses("play", Check.NOT_POSSIBLE);
        }
    }

    private static void promise22Limit() {
        Check.sentence("LIMIT_REACHED if there would be more than 999 hand-overs.");
        Run full = Run.of().idles(999);
        full.and("text s0;").refuses("play", Check.LIMIT);
        full.and("text l0,5,5;").due("play", 1).and("play").due("stageOf 0 1", 5);
        full.and("text l0,5,5;s1;").refuses("play", Check.LIMIT);
        full.and("text s1;l0,5,5;").refuses("play", Check.LIMIT);
        Run text = Run.of().and("text " + SIXTY);
        text.idles(979).due("play", 20).and("play").due("count 1", 999).refuses("play", Check.LIMIT);
        text.idles(980).refuses("play", Check.LIMIT);
    }

    private static void promise22LimitOfReferences() {
        Check.sentence("LIMIT_REACHED if there would be more than 999 hand-overs.");
        Run two = Run.of("text s1;s2;");
        two.idles(995).and("set 1 1").due("play", 2).and("play").due("count 1", 999);
        two.idles(996).and("set 1 1").refuses("play", Check.LIMIT);
        two.idles(996).and("set 1 12").due("play", 2).and("play").due("count 1", 999);
        two.idles(997).and("set 1 12").due("play", 2);
        // At 997 there is none for 2, but at 998.
        two.idles(997).and("set 1 2").refuses("play", Check.LIMIT);
        two.idles(998).and("set 1 0").refuses("play", Check.LIMIT);
        Run one = Run.of("text s1;").idles(998);
        one.and("set 1 2").refuses("play", Check.LIMIT);
        one.and("set 1 3").due("play", 1);
    }
}
