/** Promises 11 to 14: append, clearText, faultPosition, run. */
public final class TextTest {
    private static final String SHOT = "s0f100000b101000q90;";

    public static void main(String[] args) {
        append();
        appendEachByte();
        appendFull();
        fullWhateverElseIsDone();
        clearText();
        noFault();
        noActs();
        pathsAtTheirBounds();
        timesAtTheirBounds();
        qualitiesAtTheirBounds();
        sevenDigitsAtMost();
        zeroAlone();
        noNumber();
        noBlanks();
        outOfRangeWhateverFollows();
        semicolonAtEachEnd();
        faultsOfOneMeter();
        faultOfSigns();
        faultOfNumbers();
        faultOfEarlyEnds();
        eachByteOfAShot();
        runOrdinary();
        runWithoutActs();
        runOfFiftyActs();
        runStopsAtAnError();
        runStopsAtEachError();
        runWithoutErrors();
        runIsOneRecord();
        runAtAFullHistory();
        runWithAFault();
        runSwaps();
        theTextIsNoState();
        Check.finish();
    }

    private static void append() {
        TransitMeter x = new TransitMeter();
        Check.due("append(32)", x.append(32), 1);
        Check.due("append(126)", x.append(126), 2);
        for (int wrong : new int[] {31, 127, 0, -1, 255, 256 + 's', Integer.MIN_VALUE, Integer.MAX_VALUE}) {
            Check.due("append(" + wrong + ")", x.append(wrong), Check.BAD_VALUE);
        }
        Check.due("total(9)", x.total(9), 2);
        Check.due("append is not recorded", x.total(8), 0);
    }

    private static void appendEachByte() {
        TransitMeter x = new TransitMeter();
        for (int b = -300; b <= 600; b++) {
            boolean fits = b >= 32 && b <= 126;
            Check.due("append(" + b + ")", x.append(b), fits ? b - 31 : Check.BAD_VALUE);
        }
        Check.due("total(9)", x.total(9), 95);
    }

    private static void appendFull() {
        TransitMeter x = new TransitMeter();
        for (int i = 1; i <= 100; i++) {
            Check.due("append, byte " + i, x.append(i % 2 == 1 ? 'c' : ';'), i);
        }
        Check.due("append, byte 101", x.append('c'), Check.FULL);
        Check.due("append, a wrong byte 101", x.append(31), Check.BAD_VALUE);
        Check.due("100 bytes without a fault", x.faultPosition(), Check.NONE);
        x.addPath(100, 50, 1, 1000, 0);
        Check.due("50 rounds", x.run(), 50);
        Check.due("all lost", x.total(4), 50);
        Check.due("clearText()", x.clearText(), 100);
        Check.due("append after that", x.append('x'), 1);
    }

    private static void fullWhateverElseIsDone() {
        TransitMeter x = Check.withPaths(1);
        Check.type(x, "c;".repeat(49) + "w");
        Check.due("append, the 100th", x.append(';'), 100);
        x.run();
        Check.due("full after run()", x.append('c'), Check.FULL);
        x.undo();
        Check.due("full after undo()", x.append('c'), Check.FULL);
        x.save(0);
        x.restore(0);
        Check.due("full after restore(0)", x.append('c'), Check.FULL);
        Check.due("total(9)", x.total(9), 100);
        Check.due("faultPosition()", x.faultPosition(), Check.NONE);
        Check.due("clearText()", x.clearText(), 100);
        Check.due("append after that", x.append('c'), 1);
    }

    private static void clearText() {
        TransitMeter x = new TransitMeter();
        Check.due("clearText() of none", x.clearText(), 0);
        Check.type(x, "abc");
        Check.due("clearText()", x.clearText(), 3);
        Check.due("clearText() again", x.clearText(), 0);
        Check.due("total(9)", x.total(9), 0);
        Check.due("no fault in an empty text", x.faultPosition(), Check.NONE);
        Check.due("clearText is not recorded", x.total(8), 0);
        Check.type(x, "c");
        Check.due("nothing is left of the old text", x.faultPosition(), 1);
    }

    private static void fault(String text, int due) {
        TransitMeter x = new TransitMeter();
        Check.type(x, text);
        Check.due("faultPosition of \"" + text + "\"", x.faultPosition(), due);
        Check.due("the length of \"" + text + "\"", x.total(9), text.length());
    }

    private static void noFault() {
        for (String text : new String[] {"", "c;", "w;", "c;w;c;", SHOT, SHOT + "c;" + SHOT + "w;",
                "s3f1000b9999999q0;", "s0f9999999b1000q100;", "s1f5000b5000q7;", "s2f1000b1000q10;"}) {
            fault(text, Check.NONE);
        }
    }

    private static void noActs() {
        fault("", Check.NONE);
        TransitMeter x = new TransitMeter();
        Check.due("faultPosition() ahead of all", x.faultPosition(), Check.NONE);
        Check.type(x, "xyz");
        Check.due("faultPosition()", x.faultPosition(), 0);
        x.clearText();
        Check.due("faultPosition() of the emptied text", x.faultPosition(), Check.NONE);
    }

    private static void pathsAtTheirBounds() {
        for (int path = 0; path <= 9; path++) {
            fault("s" + path + "f5000b5000q7;", path <= 3 ? Check.NONE : 1);
        }
        fault("s/f5000b5000q7;", 1);
        fault("s:f5000b5000q7;", 1);
    }

    private static void timesAtTheirBounds() {
        String[] times = {"0", "1", "999", "1000", "1001", "9999998", "9999999"};
        boolean[] fits = {false, false, false, true, true, true, true};
        for (int i = 0; i < times.length; i++) {
            fault("s0f" + times[i] + "b5000q7;", fits[i] ? Check.NONE : 3);
            fault("s0f5000b" + times[i] + "q7;", fits[i] ? Check.NONE : 8);
        }
    }

    private static void qualitiesAtTheirBounds() {
        for (int quality : new int[] {0, 1, 9, 10, 99, 100, 101, 102, 110, 200, 999, 1000, 9999999}) {
            fault("s0f5000b5000q" + quality + ";", quality <= 100 ? Check.NONE : 13);
        }
    }

    /** The eighth digit is no part of the number; a number of seven that is in range is none of eight. */
    private static void sevenDigitsAtMost() {
        fault("s0f1234567b5000q7;", Check.NONE);
        fault("s0f12345678b5000q7;", 10);
        fault("s0f5000b1234567q7;", Check.NONE);
        fault("s0f5000b12345678q7;", 15);
        fault("s0f10000000b5000q7;", 10);
        fault("s0f5000b5000q10000000;", 13);
        fault("s00000000f5000b5000q7;", 2);
    }

    private static void zeroAlone() {
        fault("s0f5000b5000q0;", Check.NONE);
        fault("s00f5000b5000q0;", 2);
        fault("s03f5000b5000q0;", 2);
        fault("s0f05000b5000q0;", 3);
        fault("s0f5000b05000q0;", 8);
        fault("s0f5000b5000q00;", 14);
        fault("s0f5000b5000q01;", 14);
        fault("s0f5000b5000q0100;", 14);
    }

    private static void noNumber() {
        fault("sf5000b5000q7;", 1);
        fault("s0fb5000q7;", 3);
        fault("s0f5000bq7;", 8);
        fault("s0f5000b5000q;", 13);
        fault("s;", 1);
    }

    private static void noBlanks() {
        String text = "s1f5000b6000q70;c;w;";
        // a blank in a number leaves too small a time, a fault at its first digit, or a quality without a semicolon
        int[] due = {0, 1, 2, 3, 3, 3, 3, 7, 8, 8, 8, 8, 12, 13, 14, 15, 16, 17, 18, 19, 20};
        fault(text, Check.NONE);
        for (int i = 0; i <= text.length(); i++) {
            fault(text.substring(0, i) + " " + text.substring(i), due[i]);
        }
    }

    private static void outOfRangeWhateverFollows() {
        for (String after : new String[] {"", ";", "f", "x", " ", "f5000b5000q7;", "f5000b5000q7;x"}) {
            fault("s4" + after, 1);
            fault("s10" + after, 1);
            fault("s9999999" + after, 1);
            fault("s99999999" + after, 1);
            fault("c;w;s0f999" + after, 7);
            fault("s0f0" + after, 3);
            fault("s0f5000b999" + after, 8);
            fault("s0f5000b5000q101" + after, 13);
            fault("s0f5000b5000q1000000" + after, 13);
        }
    }

    private static void semicolonAtEachEnd() {
        fault("c", 1);
        fault("w", 1);
        fault("s0f5000b5000q7", 14);
        fault("c;w", 3);
        fault("cw;", 1);
        fault("c:", 1);
        fault("s0f5000b5000q7,", 14);
        fault("s0f5000b5000q100", 16);
        fault("s0f5000b5000q0", 14);
        fault("c;;w;", 2);
    }

    private static void faultsOfOneMeter() {
        TransitMeter x = new TransitMeter();
        String[] texts = {"c;c;x", "c;", "c", "x", "c;s", "s1f5000b5000q7;", "s1f5000b5000q", "", "c".repeat(100),
            "c;".repeat(49) + "cs", "c;".repeat(49) + ";s", "s0f5000b5000q7;".repeat(6) + "s0f5000b50", "w;w;w"};
        int[] due = {4, Check.NONE, 1, 0, 3, Check.NONE, 13, Check.NONE, 1, 99, 98, 98, 5};
        for (int i = 0; i < texts.length; i++) {
            Check.type(x, texts[i]);
            Check.due("faultPosition of " + texts[i], x.faultPosition(), due[i]);
            Check.due("faultPosition of " + texts[i] + ", again", x.faultPosition(), due[i]);
        }
        Check.type(x, "c;".repeat(48) + "c;w;");
        Check.due("faultPosition of 100 bytes", x.faultPosition(), Check.NONE);
        Check.type(x, "s0f5000b5000q7;".repeat(6) + "s0f5000b5!");
        Check.due("faultPosition of 100 bytes that end with too small a time", x.faultPosition(), 98);
        Check.type(x, "s0f5000b5000q7;".repeat(5) + "c;".repeat(5) + "s0f5000b5000q77");
        Check.due("faultPosition of 100 bytes that end too early", x.faultPosition(), 100);
        Check.type(x, "w;w;w");
        Check.due("append", x.append(';'), 6);
        Check.due("faultPosition of the whole text", x.faultPosition(), Check.NONE);
    }

    private static void faultOfSigns() {
        fault("x", 0);
        fault(";", 0);
        fault("C;", 0);
        fault(" c;", 0);
        fault("c ;", 1);
        fault("c; ", 2);
        fault("c;;", 2);
        fault("cc;", 1);
        fault("w0;", 1);
        fault("c;w;x", 4);
        fault("S0f5000b5000q7;", 0);
        fault("s 0f5000b5000q7;", 1);
        fault("s0 f5000b5000q7;", 2);
        fault("s0F5000b5000q7;", 2);
        fault("s0b5000f5000q7;", 2);
        fault("s0f5000q7;", 7);
        fault("s0f5000b5000;", 12);
        fault("s0f5000b5000q7c;", 14);
        fault("s0f5000b5000q7 ;", 14);
        fault("s0f5000.b5000q7;", 7);
    }

    private static void faultOfNumbers() {
        fault("sf5000b5000q7;", 1);
        fault("s4f5000b5000q7;", 1);
        fault("s10f5000b5000q7;", 1);
        fault("s00f5000b5000q7;", 2);
        fault("s01f5000b5000q7;", 2);
        fault("s-1f5000b5000q7;", 1);
        fault("s0f999b5000q7;", 3);
        fault("s0f0b5000q7;", 3);
        fault("s0f05000b5000q7;", 3);
        fault("s0f-5000b5000q7;", 3);
        fault("s0fb5000q7;", 3);
        fault("s0f10000000b5000q7;", 10);
        fault("s0f99999999b5000q7;", 10);
        fault("s0f9999999b99999990q7;", 18);
        fault("s0f5000b999q7;", 8);
        fault("s0f5000b0q7;", 8);
        fault("s0f5000b5000q101;", 13);
        fault("s0f5000b5000q1000;", 13);
        fault("s0f5000b5000q00;", 14);
        fault("s0f5000b5000q07;", 14);
        fault("s0f5000b5000q;", 13);
        fault("s0f5000b5000q12345678;", 13);
        fault("s12345678", 1);
        fault("s3333333333", 1);
        fault("s4!", 1);
        fault("s0f999!", 3);
        fault("s/", 1);
        fault("s:", 1);
    }

    private static void faultOfEarlyEnds() {
        fault("s", 1);
        fault("s0", 2);
        fault("s0f", 3);
        fault("s0f1000", 7);
        fault("s0f1000b", 8);
        fault("s0f1000b1000", 12);
        fault("s0f1000b1000q", 13);
        fault("s0f1000b1000q5", 14);
        fault("s0f1000b1000q100", 16);
        fault("c", 1);
        fault("c;w", 3);
        fault(SHOT + "s", SHOT.length() + 1);
        // the digits that stand there are out of the range, though more could follow
        fault("s4", 1);
        fault("s12", 1);
        fault("s0f1", 3);
        fault("s0f999", 3);
        fault("s0f0", 3);
        fault("s0f1000b99", 8);
        fault("s0f1000b1000q101", 13);
    }

    /** A shot that is cut off, or goes on with a sign that fits nowhere, at each of its bytes. */
    private static void eachByteOfAShot() {
        String text = "s1f2345678b3456789q0;";
        for (int i = 0; i < text.length(); i++) {
            // cut after one to three digits, a time is below 1000, and so a fault at its first digit
            int due = i >= 4 && i <= 6 ? 3 : i >= 12 && i <= 14 ? 11 : i;
            fault(text.substring(0, i) + "~" + text.substring(i + 1), due);
            fault(text.substring(0, i), i == 0 ? Check.NONE : due);
        }
    }

    private static void runOrdinary() {
        TransitMeter x = Check.withPaths(1, 1);
        Check.type(x, "s0f100000b101000q90;s1f100000b100100q40;");
        Check.due("run()", x.run(), 2);
        Check.due("told(0, 0)", x.told(0, 0), 100000);
        Check.due("told(0, 1)", x.told(0, 1), 101000);
        Check.due("told(0, 2)", x.told(0, 2), 90);
        Check.due("told(1, 1)", x.told(1, 1), 100100);
        Check.due("told(1, 2)", x.told(1, 2), 40);
        Check.due("the text stays", x.total(9), 40);
        Check.type(x, "c;w;");
        Check.due("run()", x.run(), 2);
        Check.due("the round is closed", x.round(0, 0), 5449);
        Check.due("swapped", x.total(6), 1);
        Check.due("run() again", x.run(), 2);
        Check.due("a lost round more", x.total(4), 1);
        Check.due("swapped back", x.total(6), 0);
    }

    private static void runWithoutActs() {
        TransitMeter x = new TransitMeter();
        Check.due("run() of an empty text", x.run(), 0);
        Check.due("it is recorded", x.total(8), 1);
        Check.due("undo()", x.undo(), 0);
        Check.due("no paths and no acts", x.total(3), 0);
    }

    private static void runOfFiftyActs() {
        TransitMeter x = Check.withPaths(1);
        Check.type(x, "w;c;".repeat(25));
        Check.due("total(9)", x.total(9), 100);
        Check.due("run()", x.run(), 50);
        Check.due("closed", x.total(3), 25);
        Check.due("swapped", x.total(6), 1);
        Check.due("kept", x.total(5), 12);
        Check.due("one state more", x.total(8), 2);
        TransitMeter none = new TransitMeter();
        Check.type(none, "w;".repeat(49) + "c;");
        Check.due("run() with an error of the last act", none.run(), 49);
    }

    /** The act that reports an error changes nothing, those ahead of it stay, and those after it are not done. */
    private static void runStopsAtEachError() {
        TransitMeter x = new TransitMeter();
        x.addPath(100, 50, 1, 1000, 500);
        x.addPath(100, 50, 1, 1000, 0);
        String[] wrong = {"s0f1499b5000q7;", "s0f5000b1499q7;", "s0f1000b1000q7;", "s2f5000b5000q7;", "s3f5000b5000q7;"};
        for (String act : wrong) {
            Check.type(x, "w;s1f6000b7000q50;" + act + "w;c;");
            Check.due("faultPosition() with " + act, x.faultPosition(), Check.NONE);
            Check.due("run() with " + act, x.run(), 2);
            Check.due("swapped once", x.total(6), 1);
            Check.due("the shot ahead of it", x.told(1, 0), 7000);
            Check.due("no shot of 0", x.told(0, 0), Check.NONE);
            Check.due("not closed", x.total(3), 0);
            Check.due("recorded as one", x.total(8), 3);
            Check.due("undo()", x.undo(), 2);
            Check.due("not swapped", x.total(6), 0);
        }
        TransitMeter none = new TransitMeter();
        Check.type(none, "c;w;");
        Check.due("run() without paths", none.run(), 0);
        Check.due("not swapped", none.total(6), 0);
        Check.due("it is recorded", none.total(8), 1);
    }

    private static void runStopsAtAnError() {
        TransitMeter none = new TransitMeter();
        Check.type(none, "w;c;w;");
        Check.due("run() without paths", none.run(), 1);
        Check.due("the act ahead of the error stays", none.total(6), 1);
        Check.due("it is recorded", none.total(8), 1);
        TransitMeter x = new TransitMeter();
        x.addPath(100, 50, 1, 1000, 500);
        Check.type(x, "s0f1500b1500q90;s0f1499b1500q90;c;");
        Check.due("run() with too early a time", x.run(), 1);
        Check.due("the first shot stays", x.told(0, 0), 1500);
        Check.due("no round is closed", x.total(3), 0);
        Check.type(x, "s0f1500b1499q90;c;");
        Check.due("run() with too early a backward time", x.run(), 0);
        Check.type(x, "c;s1f1500b1500q90;w;");
        Check.due("run() with no such path", x.run(), 1);
        Check.due("a round is closed", x.total(3), 1);
        Check.due("not swapped", x.total(6), 0);
        Check.type(x, "s3f1500b1500q90;c;");
        Check.due("run() with an error at once", x.run(), 0);
        Check.due("also recorded", x.total(8), 5);
        Check.due("undo()", x.undo(), 4);
        Check.due("nothing was different", x.total(3), 1);
    }

    private static void runWithoutErrors() {
        TransitMeter x = Check.withPaths(1);
        Check.type(x, "c;s0f101000b100000q90;c;c;");
        Check.due("a lost round and one below 0 are no errors", x.run(), 4);
        Check.due("closed", x.total(3), 3);
        Check.due("lost", x.total(4), 2);
        Check.due("velocity", x.round(1, 0), -9900);
    }

    private static void runIsOneRecord() {
        TransitMeter x = Check.withPaths(1);
        String before = Check.seen(x);
        Check.type(x, SHOT + "c;" + "s0f100100b101000q90;c;w;");
        Check.due("run()", x.run(), 5);
        Check.due("one state more", x.total(8), 2);
        String after = Check.seen(x);
        Check.due("undo()", x.undo(), 1);
        Check.holds("undone as one", before.equals(Check.seen(x)));
        Check.due("run() again", x.run(), 5);
        Check.holds("the same again", after.equals(Check.seen(x)));
        x.clearText();
        Check.due("run() of no acts", x.run(), 0);
        Check.due("it is recorded too", x.total(8), 3);
        Check.holds("and changes nothing", after.equals(Check.seen(x)));
    }

    private static void runAtAFullHistory() {
        TransitMeter x = Check.withPaths(1);
        for (int weight = 2; weight <= 6; weight++) {
            x.setWeight(0, weight);
        }
        Check.type(x, "w;c;".repeat(25));
        Check.due("run()", x.run(), 50);
        Check.due("five states", x.total(8), 5);
        Check.due("undo()", x.undo(), 4);
        Check.due("no round", x.total(3), 0);
        Check.due("the weight", x.path(0, 2), 6);
        for (int left = 3; left >= 0; left--) {
            Check.due("undo()", x.undo(), left);
            Check.due("the weight", x.path(0, 2), left + 2);
        }
        Check.due("only the oldest was dropped", x.undo(), Check.NOT_POSSIBLE);
    }

    private static void runWithAFault() {
        TransitMeter x = Check.withPaths(1);
        String before = Check.seen(x);
        for (String text : new String[] {"w;x", "w;c", SHOT + "c;s0f999b1000q1;", "w;c;;"}) {
            Check.type(x, text);
            Check.due("run() of " + text, x.run(), Check.NOT_POSSIBLE);
        }
        Check.holds("nothing is carried out", before.equals(Check.seen(x)));
        Check.due("nothing is recorded", x.total(8), 1);
    }

    private static void runSwaps() {
        TransitMeter x = Check.withPaths(1);
        Check.type(x, SHOT + "w;" + SHOT);
        Check.due("run()", x.run(), 3);
        Check.due("told after swapping", x.told(0, 0), 101000);
        Check.type(x, "w;");
        Check.due("run()", x.run(), 1);
        Check.due("told and swapped back", x.told(0, 0), 100000);
    }

    private static void theTextIsNoState() {
        TransitMeter x = Check.withPaths(1);
        Check.type(x, "c;");
        x.undo();
        Check.due("the text after undo", x.total(9), 2);
        x.save(0);
        Check.type(x, "w;w;");
        x.restore(0);
        Check.due("the text after restore", x.total(9), 4);
        Check.due("run() of it", x.run(), 2);
    }
}
