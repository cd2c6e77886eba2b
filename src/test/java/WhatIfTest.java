import java.util.Arrays;

/** Promises 27 to 31: velocity, ideal, wouldBe, wouldBecome, skipsNeeded. */
public final class WhatIfTest {
    public static void main(String[] args) {
        velocity();
        velocityLimits();
        velocityRoundsEachQuotient();
        velocityErrors();
        velocityTimesAtTheirBounds();
        ideal();
        idealAtItsBounds();
        idealOfTheLeastFlow();
        idealErrors();
        wouldBe();
        wouldBeWithoutPaths();
        wouldBeLost();
        wouldBeWithoutPathsAfterUndo();
        wouldBecome();
        wouldBecomeOfNoPath();
        skipsNeeded();
        skipsNeededAtItsBounds();
        skipsNeededOfSome();
        skipsNeededOfTheTooEarly();
        changesNothing();
        Check.finish();
    }

    private static void velocity() {
        TransitMeter x = Check.withPaths(1);
        Check.due("no flow", x.velocity(0, 5000, 5000), 0);
        Check.due("forward", x.velocity(0, 100000, 101000), 9900);
        Check.due("backward", x.velocity(0, 101000, 100000), -9900);
        Check.due("at most", x.velocity(0, 1000, 9999999), 100000);
        Check.due("at least", x.velocity(0, 9999999, 1000), -100000);
        // 1e8 * 9980 / 9973100 = 100069.1 and 1e8 * 11111 / 11111100 = 99999.1
        Check.due("just above the limit", x.velocity(0, 95000, 104980), 100000);
        Check.due("just below the limit", x.velocity(0, 100000, 111111), 99999);
        Check.due("just below the lower limit", x.velocity(0, 104980, 95000), -100000);
        Check.due("just above the lower limit", x.velocity(0, 111111, 100000), -99999);
        x.swap();
        Check.due("the same when swapped", x.velocity(0, 100000, 101000), 9900);
        TransitMeter y = new TransitMeter();
        y.addPath(77, 31, 1, 100, 123);
        // 77 * 77 * 500000 / 31 = 95629032 (.2); net 5000 and 5007: 25035 (.0); 95629032 * 7 / 25035 = 26738.7
        Check.due("with a delay", y.velocity(0, 5123, 5130), 26738);
        y.addPath(2000, 10, 1, 100, 0);
        // 2e11 * 1 / 99999980000 .. = 2e11 / 99999980000 = 2.0
        Check.due("long times", y.velocity(1, 9999998, 9999999), 2);
        Check.due("a great product", y.velocity(1, 9999999, 5000000), -100000);
    }

    private static void velocityLimits() {
        TransitMeter x = Check.withPaths(1);
        int[][] due = {{100000, 111111, 99999}, {95000, 104980, 100000}, {1000, 9999999, 100000},
            {111111, 100000, -99999}, {104980, 95000, -100000}, {9999999, 1000, -100000}};
        for (int[] each : due) {
            Check.due("velocity(0, " + each[0] + ", " + each[1] + ")", x.velocity(0, each[0], each[1]), each[2]);
        }
        TransitMeter longest = new TransitMeter();
        longest.addPath(2000, 10, 1, 100, 0);
        // 2e11 * 9998999 is far beyond int
        Check.due("the longest, at most", longest.velocity(0, 1000, 9999999), 100000);
        Check.due("the longest, at least", longest.velocity(0, 9999999, 1000), -100000);
    }

    private static void velocityRoundsEachQuotient() {
        TransitMeter x = new TransitMeter();
        x.addPath(50, 50, 1, 1000, 0);
        // 1027 * 1029 / 1000 = 1056 (.783), and 25000000 * 2 / 1056 = 47348.4
        Check.due("the product is cut", x.velocity(0, 1027, 1029), 47348);
        Check.due("the same backward", x.velocity(0, 1029, 1027), -47348);
        x.addPath(53, 47, 1, 1000, 0);
        // 53 * 53 * 500000 / 47 = 29882978 (.72), 1304 * 1309 / 1000 = 1706: 29882978 * 5 / 1706 = 87581.998
        Check.due("the first quotient is cut", x.velocity(1, 1304, 1309), 87581);
        Check.due("the same backward", x.velocity(1, 1309, 1304), -87581);
    }

    private static void velocityErrors() {
        TransitMeter x = new TransitMeter();
        Check.due("velocity(0, ..) without paths", x.velocity(0, 5000, 5000), Check.BAD_INDEX);
        x.addPath(100, 50, 1, 1000, 700);
        for (int path : new int[] {-1, 1, 4, Integer.MIN_VALUE, Integer.MAX_VALUE}) {
            Check.due("velocity(" + path + ", ..)", x.velocity(path, 5000, 5000), Check.BAD_INDEX);
            Check.due("velocity(" + path + ", 0, 0)", x.velocity(path, 0, 0), Check.BAD_INDEX);
        }
        for (int wrong : new int[] {999, 1000, 1699, 10000000, -5000, Integer.MIN_VALUE, Integer.MAX_VALUE}) {
            Check.due("forward " + wrong, x.velocity(0, wrong, 5000), Check.BAD_VALUE);
            Check.due("backward " + wrong, x.velocity(0, 5000, wrong), Check.BAD_VALUE);
        }
        Check.due("1000 above the delay", x.velocity(0, 1700, 1700), 0);
    }

    private static void velocityTimesAtTheirBounds() {
        for (int delay : new int[] {0, 1, 5000}) {
            TransitMeter x = new TransitMeter();
            x.addPath(100, 50, 1, 1000, delay);
            int least = 1000 + delay;
            Check.due("forward, one too small", x.velocity(0, least - 1, 9000), Check.BAD_VALUE);
            Check.due("backward, one too small", x.velocity(0, 9000, least - 1), Check.BAD_VALUE);
            Check.due("both the least", x.velocity(0, least, least), 0);
            Check.due("both the greatest", x.velocity(0, 9999999, 9999999), 0);
            Check.due("forward, one too large", x.velocity(0, 10000000, 9000), Check.BAD_VALUE);
            Check.due("backward, one too large", x.velocity(0, 9000, 10000000), Check.BAD_VALUE);
        }
        Check.due("of no path", new TransitMeter().velocity(0, 999, 999), Check.BAD_INDEX);
    }

    private static void ideal() {
        TransitMeter x = new TransitMeter();
        x.addPath(200, 100, 3, 1000, 50);
        Check.due("forward", x.ideal(0, 1500, 2000, false), 133294);
        Check.due("backward", x.ideal(0, 1500, 2000, true), 133472);
        Check.due("forward against the flow", x.ideal(0, 1500, -2000, false), 133472);
        Check.due("backward against the flow", x.ideal(0, 1500, -2000, true), 133294);
        // 2e11 / 300000 = 666666
        Check.due("slow, no flow", x.ideal(0, 300, 0, false), 666716);
        Check.due("slow, no flow, backward", x.ideal(0, 300, 0, true), 666716);
        // 2e11 / 3000000 = 66666
        Check.due("fast", x.ideal(0, 3000, 0, false), 66716);
        // 2e11 / (300000 + 10000) and / (300000 - 10000)
        Check.due("the greatest flow", x.ideal(0, 300, 20000, false), 645211);
        Check.due("the greatest flow, backward", x.ideal(0, 300, 20000, true), 689705);
        Check.due("the least flow", x.ideal(0, 300, -20000, false), 689705);
        x.addPath(2000, 2000, 1, 100, 5000);
        // 2e12 / 280000
        Check.due("the longest", x.ideal(1, 300, 20000, true), 7147857);
        // 2e12 / 280168 = 7138573.99
        Check.due("nearly a whole number", x.ideal(1, 300, -19832, false), 7143573);
        x.addPath(51, 10, 1, 100, 0);
        // -999 * 10 / 51 = -195 (.9), rounded towards zero: 51e9 / 999805 and 51e9 / 1000195
        Check.due("a quotient below 0", x.ideal(2, 1000, -999, false), 51009);
        Check.due("and taken away", x.ideal(2, 1000, -999, true), 50990);
        // 9 * 10 / 51 = 1, and -9 * 10 / 51 = -1: 51e9 / 300001 = 169999.4, 51e9 / 299999 = 170000.5
        Check.due("9", x.ideal(2, 300, 9, false), 169999);
        Check.due("-5 is none", x.ideal(2, 300, -5, false), 170000);
        Check.due("5 is none, backward", x.ideal(2, 300, 5, true), 170000);
    }

    private static void idealAtItsBounds() {
        TransitMeter x = new TransitMeter();
        x.addPath(200, 200, 1, 1000, 5000);
        // 2e11 / 300000, / 3000000, / 320000, / 280000, / 3020000, / 2980000
        int[][] due = {{299, 0, Check.BAD_VALUE}, {300, 0, 671666}, {3000, 0, 71666}, {3001, 0, Check.BAD_VALUE},
            {300, -20001, Check.BAD_VALUE}, {300, -20000, 719285}, {300, 20000, 630000}, {300, 20001, Check.BAD_VALUE},
            {3000, -20000, 72114}, {3000, 20000, 71225}, {3000, 20001, Check.BAD_VALUE}};
        for (int[] each : due) {
            String what = "ideal(0, " + each[0] + ", " + each[1] + ", ";
            Check.due(what + "false)", x.ideal(0, each[0], each[1], false), each[2]);
            Check.due(what + "true), the flow turned", x.ideal(0, each[0], -each[1], true), each[2]);
        }
        Check.due("ideal(-1, 300, 0, true)", x.ideal(-1, 300, 0, true), Check.BAD_INDEX);
        Check.due("ideal(1, 300, 0, true)", x.ideal(1, 300, 0, true), Check.BAD_INDEX);
    }

    /** A flow of 1 along 1999 of 2000 is 0, with either sign; where it is more, it is the same with either sign. */
    private static void idealOfTheLeastFlow() {
        TransitMeter x = new TransitMeter();
        x.addPath(2000, 1999, 1, 1000, 0);
        // 2e12 / 300000, and 2e12 / 300001 and / 299999 where 2 * 1999 / 2000 is 1
        int[][] due = {{0, 6666666}, {1, 6666666}, {-1, 6666666}, {2, 6666644}, {-2, 6666688}, {3, 6666622},
            {-3, 6666711}};
        for (int[] each : due) {
            Check.due("ideal(0, 300, " + each[0] + ", false)", x.ideal(0, 300, each[0], false), each[1]);
            Check.due("ideal(0, 300, " + -each[0] + ", true)", x.ideal(0, 300, -each[0], true), each[1]);
        }
    }

    private static void idealErrors() {
        TransitMeter x = Check.withPaths(1);
        for (int path : new int[] {-1, 1, 4, Integer.MIN_VALUE, Integer.MAX_VALUE}) {
            Check.due("ideal(" + path + ", ..)", x.ideal(path, 1500, 0, false), Check.BAD_INDEX);
            Check.due("ideal(" + path + ", 0, ..)", x.ideal(path, 0, 0, true), Check.BAD_INDEX);
        }
        for (int wrong : new int[] {299, 3001, 0, -300, Integer.MIN_VALUE, Integer.MAX_VALUE}) {
            Check.due("sound " + wrong, x.ideal(0, wrong, 0, false), Check.BAD_VALUE);
        }
        for (int wrong : new int[] {-20001, 20001, Integer.MIN_VALUE, Integer.MAX_VALUE}) {
            Check.due("flow " + wrong, x.ideal(0, 1500, wrong, false), Check.BAD_VALUE);
            Check.due("flow " + wrong, x.ideal(0, 1500, wrong, true), Check.BAD_VALUE);
        }
    }

    private static void wouldBe() {
        Check.due("wouldBe() without paths", new TransitMeter().wouldBe(), Check.NOT_POSSIBLE);
        TransitMeter x = Check.withPaths(1, 3);
        Check.due("wouldBe() without shots", x.wouldBe(), Check.NONE);
        x.shot(0, 100000, 101000, 39);
        Check.due("wouldBe() with a weak one", x.wouldBe(), Check.NONE);
        x.shot(0, 100000, 101000, 40);
        Check.due("wouldBe()", x.wouldBe(), 9900);
        Check.aim(x, 1, 100000, 100000);
        Check.due("wouldBe() of both", x.wouldBe(), 2475);
        x.setPoint(0, 500);
        Check.due("wouldBe() with a factor", x.wouldBe(), 1237);
        x.set(0, 91);
        Check.due("wouldBe() with a higher least quality", x.wouldBe(), Check.NONE);
        x.set(0, 40);
        Check.due("close()", x.close(), 1237);
        Check.due("wouldBe() after that", x.wouldBe(), Check.NONE);
        Check.aim(x, 0, 100000, 101000);
        // 1 has the ratio 0: 9900 / 4 = 2475
        Check.due("wouldBe() with a substituted one", x.wouldBe(), 1237);
    }

    private static void wouldBeWithoutPaths() {
        TransitMeter x = new TransitMeter();
        Check.due("wouldBe()", x.wouldBe(), Check.NOT_POSSIBLE);
        x.setPoint(0, 900);
        Check.due("wouldBe() with a point", x.wouldBe(), Check.NOT_POSSIBLE);
        x.addPath(100, 50, 1, 1000, 0);
        Check.due("wouldBe() with a path", x.wouldBe(), Check.NONE);
    }

    /** One that is missing, one that is weak, and one that is an outlier. */
    private static void wouldBeLost() {
        TransitMeter x = Check.withReferences(1, 1, 1, 1);
        Check.due("without shots", x.wouldBe(), Check.NONE);
        x.shot(1, 100000, 101000, 39);
        Check.due("with a weak one", x.wouldBe(), Check.NONE);
        Check.aim(x, 2, 103000, 104000);
        Check.aim(x, 3, 104000, 103000);
        Check.due("with outliers", x.wouldBe(), Check.NONE);
        Check.due("close()", x.close(), Check.NONE);
        TransitMeter still = Check.withPaths(1);
        Check.aim(still, 0, 5000, 5000);
        Check.due("0 is not lost", still.wouldBe(), 0);
    }

    private static void wouldBeWithoutPathsAfterUndo() {
        TransitMeter x = Check.withPaths(1);
        Check.aim(x, 0, 100000, 101000);
        Check.due("wouldBe()", x.wouldBe(), 9900);
        x.undo();
        Check.due("wouldBe() without the shot", x.wouldBe(), Check.NONE);
        x.undo();
        Check.due("wouldBe() without the path", x.wouldBe(), Check.NOT_POSSIBLE);
        Check.due("wouldBecome(0)", x.wouldBecome(0), Check.BAD_INDEX);
        Check.due("skipsNeeded()", x.skipsNeeded(), 0);
    }

    private static void wouldBecome() {
        TransitMeter x = Check.withReferences(1, 1, 1, 10);
        Check.aim(x, 0, 101000, 100000);
        Check.aim(x, 1, 103000, 100000);
        x.shot(2, 100000, 100000, 39);
        Check.aim(x, 3, 100000, 100000);
        Check.due("corrected", x.wouldBecome(0), TransitMeter.CORRECTED);
        Check.due("outlier", x.wouldBecome(1), TransitMeter.OUTLIER);
        Check.due("weak", x.wouldBecome(2), TransitMeter.WEAK);
        Check.due("good", x.wouldBecome(3), TransitMeter.GOOD);
        x.undo();
        Check.due("missing", x.wouldBecome(3), TransitMeter.MISSING);
        x.set(1, 3);
        Check.due("no outlier with 3", x.wouldBecome(1), TransitMeter.CORRECTED);
        for (int path : Check.NO_NUMBER_OF_A_PATH) {
            Check.due("wouldBecome(" + path + ")", x.wouldBecome(path), Check.BAD_INDEX);
        }
        Check.due("wouldBecome(0) without paths", new TransitMeter().wouldBecome(0), Check.BAD_INDEX);
        Check.due("wouldBecome(1) of one", Check.withPaths(1).wouldBecome(1), Check.BAD_INDEX);
    }

    private static void wouldBecomeOfNoPath() {
        for (int paths = 0; paths <= 4; paths++) {
            int[] weights = new int[paths];
            Arrays.fill(weights, 7);
            TransitMeter x = Check.withPaths(weights);
            for (int path = -1; path <= 5; path++) {
                int due = path >= 0 && path < paths ? TransitMeter.MISSING : Check.BAD_INDEX;
                Check.due("wouldBecome(" + path + ") of " + paths, x.wouldBecome(path), due);
            }
        }
    }

    private static void skipsNeeded() {
        Check.due("without paths", new TransitMeter().skipsNeeded(), 0);
        Check.due("without shots", Check.withPaths(1).skipsNeeded(), 0);
        for (int most : new int[] {0, 2, 5}) {
            for (int shift = -7; shift <= 7; shift++) {
                TransitMeter x = Check.withReferences(1, 9);
                x.set(1, most);
                Check.aim(x, 0, 100000, 100000 + shift * 1000);
                Check.aim(x, 1, 100000, 100000);
                int due = Math.abs(shift) > 5 ? Check.NONE : Math.abs(shift);
                Check.due("shift " + shift, x.skipsNeeded(), due);
            }
        }
    }

    /** The answer is from 0 to 5, whatever the most skips are now, and no most skips is enough for 6. */
    private static void skipsNeededAtItsBounds() {
        for (int most = 0; most <= 5; most++) {
            TransitMeter x = Check.withReferences(1, 9);
            x.set(1, most);
            Check.aim(x, 1, 100000, 100000);
            Check.due("without a shot of 0", x.skipsNeeded(), 0);
            Check.aim(x, 0, 100000, 100000);
            Check.due("without a shift", x.skipsNeeded(), 0);
            Check.aim(x, 0, 105500, 100000);
            Check.due("five and a half periods", x.skipsNeeded(), 5);
            Check.aim(x, 0, 100000, 94500);
            Check.due("minus five and a half periods", x.skipsNeeded(), 5);
            Check.aim(x, 0, 105501, 100000);
            Check.due("six periods", x.skipsNeeded(), Check.NONE);
            Check.aim(x, 0, 100000, 94499);
            Check.due("minus six periods", x.skipsNeeded(), Check.NONE);
            Check.due("the setting stays", x.total(11), most);
        }
    }

    /** One that is an outlier because its corrected time is too early is one with each most skips from its shift on. */
    private static void skipsNeededOfTheTooEarly() {
        TransitMeter x = new TransitMeter();
        x.addPath(100, 50, 1, 1000, 0);
        x.addPath(100, 50, 9, 1000, 0);
        Check.aim(x, 0, 1400, 9000);
        Check.aim(x, 1, 9000, 9000);
        x.close();
        Check.aim(x, 0, 3000, 9000);
        Check.aim(x, 1, 9000, 9000);
        // the shift 2 leaves 1000
        Check.due("late enough", x.skipsNeeded(), 2);
        Check.aim(x, 0, 2999, 9000);
        Check.due("too early", x.skipsNeeded(), Check.NONE);
        Check.due("an outlier", x.wouldBecome(0), TransitMeter.OUTLIER);
    }

    private static void skipsNeededOfSome() {
        TransitMeter x = Check.withReferences(1, 1, 1, 9);
        Check.aim(x, 0, 101000, 96000);
        Check.aim(x, 1, 103000, 100000);
        x.shot(2, 109000, 100000, 39);
        Check.aim(x, 3, 100000, 100000);
        Check.due("the greatest of all, weak ones apart", x.skipsNeeded(), 4);
        x.shot(2, 109000, 100000, 40);
        Check.due("one is too far", x.skipsNeeded(), Check.NONE);
        x.shot(3, 109000, 100000, 40);
        Check.due("but not with a true shift", x.skipsNeeded(), 4);
        x.forget(0);
        Check.due("nor without references", x.skipsNeeded(), 3);
    }

    private static void changesNothing() {
        TransitMeter x = Check.withReferences(1, 3, 3);
        Check.aim(x, 0, 101000, 100000);
        Check.aim(x, 1, 109000, 100000);
        String before = Check.seen(x);
        int states = x.total(8);
        x.wouldBe();
        x.wouldBecome(0);
        x.wouldBecome(1);
        x.skipsNeeded();
        x.velocity(0, 5000, 6000);
        x.ideal(0, 1500, 5, true);
        Check.holds("nothing is changed", before.equals(Check.seen(x)));
        Check.due("nothing is recorded", x.total(8), states);
        Check.due("close() as it would be", x.wouldBe(), x.close());
    }
}
