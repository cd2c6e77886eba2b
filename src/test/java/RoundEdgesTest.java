/** Boundary cases of the eight steps of closing a round, and of failing; the ordinary cases are in CloseTest. */
public final class RoundEdgesTest {
    public static void main(String[] args) {
        weakIsNoOutlier();
        addedDuringARound();
        theGreatestShift();
        halfAPeriodOfEachLength();
        voteOfOnePercent();
        voteOfAHundredPercent();
        voteOfExactlyAsMuch();
        oppositeShiftsAreApart();
        oneWayAboveIsEnough();
        shiftsAtTheMostSkips();
        trueShiftThatMakesNoOutlier();
        referenceBeyondTheGreatestTime();
        velocityLimits();
        twelveLostRounds();
        substitutesEachKind();
        ratioOfZero();
        noneAcceptedNoneSubstituted();
        meanThatBecomesZero();
        oppositeFlows();
        ratioOfACorrectedOne();
        ratioOfExactlyTheLimit();
        factorOfAMeanBeyondTheTable();
        factorsAtTheirBounds();
        volumesAddUp();
        undoneThirteenthRound();
        thirtyRounds();
        goneAfterALostRound();
        failsByAnyKind();
        failsOnlyOneAfterTheOther();
        correctedIsAccepted();
        all512Calls();
        Check.finish();
    }

    /** What a weak path's times are does not matter, nor that it has no shot that can be accepted. */
    private static void weakIsNoOutlier() {
        TransitMeter x = Check.withReferences(1, 9);
        x.shot(0, 150000, 100000, 39);
        Check.aim(x, 1, 100000, 100000);
        Check.due("would become", x.wouldBecome(0), TransitMeter.WEAK);
        x.close();
        Check.due("became", x.path(0, 8), TransitMeter.WEAK);
        Check.due("outlier so far", x.path(0, 12), 0);
        Check.due("no true shift", x.round(0, 5), 0);
    }

    private static void addedDuringARound() {
        TransitMeter x = Check.withPaths(1);
        Check.aim(x, 0, 100000, 101000);
        x.addPath(100, 50, 5, 1000, 0);
        Check.due("close()", x.close(), 9900);
        Check.due("missing", x.path(1, 8), TransitMeter.MISSING);
        Check.due("not accepted", x.path(1, 10), 1);
        Check.due("accepted", x.round(0, 2), 1);
        x.addPath(100, 50, 5, 1000, 0);
        Check.due("no round since it was added", x.path(2, 8), Check.NONE);
        Check.due("no velocity", x.path(2, 9), Check.NONE);
        Check.due("none without being accepted", x.path(2, 10), 0);
        x.close();
        Check.due("one round since it was added", x.path(2, 8), TransitMeter.MISSING);
        Check.due("one without being accepted", x.path(2, 10), 1);
        Check.due("two of the one before", x.path(1, 10), 2);
    }

    /** From 9999999 to 1000 with the shortest period: -99990 periods. */
    private static void theGreatestShift() {
        TransitMeter x = new TransitMeter();
        x.addPath(100, 50, 1, 100, 0);
        x.addPath(100, 50, 9, 100, 0);
        Check.aim(x, 0, 9999999, 5000);
        Check.aim(x, 1, 100000, 100000);
        x.close();
        Check.aim(x, 0, 1000, 5000);
        Check.aim(x, 1, 100000, 100000);
        x.set(1, 5);
        Check.due("against the vote", x.wouldBecome(0), TransitMeter.OUTLIER);
        Check.due("no most skips is enough", x.skipsNeeded(), Check.NONE);
        x.shot(1, 100000, 100000, 0);
        Check.due("alone it is true", x.wouldBecome(0), TransitMeter.GOOD);
        x.close();
        Check.due("a true shift", x.round(0, 5), 1);
        Check.due("reference", x.path(0, 5), 1000);
        Check.aim(x, 0, 9999999, 5000);
        Check.due("and back", x.wouldBecome(0), TransitMeter.GOOD);
        x.close();
        Check.due("reference", x.path(0, 5), 9999999);
    }

    private static void halfAPeriodOfEachLength() {
        int[] periods = {100, 101, 9999, 10000};
        int[] last = {50, 50, 4999, 5000};
        for (int i = 0; i < periods.length; i++) {
            for (int sign = -1; sign <= 1; sign += 2) {
                TransitMeter x = new TransitMeter();
                x.addPath(100, 50, 1, periods[i], 0);
                x.addPath(100, 50, 9, periods[i], 0);
                Check.aim(x, 0, 100000, 100000);
                Check.aim(x, 1, 100000, 100000);
                x.close();
                Check.aim(x, 1, 100000, 100000);
                String what = " of the period " + periods[i] + ", sign " + sign;
                Check.aim(x, 0, 100000 + sign * last[i], 100000);
                Check.due("half or less" + what, x.wouldBecome(0), TransitMeter.GOOD);
                Check.aim(x, 0, 100000 + sign * (last[i] + 1), 100000);
                Check.due("more than half" + what, x.wouldBecome(0), TransitMeter.CORRECTED);
                Check.due("one period" + what, x.skipsNeeded(), 1);
                Check.aim(x, 0, 100000 + sign * (periods[i] + last[i]), 100000);
                Check.due("one and a half or less" + what, x.skipsNeeded(), 1);
                Check.aim(x, 0, 100000 + sign * (periods[i] + last[i] + 1), 100000);
                Check.due("more than one and a half" + what, x.skipsNeeded(), 2);
            }
        }
    }

    private static int outcomeOfAShift(int vote, int... weights) {
        TransitMeter x = Check.withReferences(weights);
        x.set(2, vote);
        Check.aim(x, 0, 101000, 100000);
        for (int path = 1; path < weights.length; path++) {
            Check.aim(x, path, 100000, 100000);
        }
        return x.wouldBecome(0);
    }

    private static void voteOfOnePercent() {
        Check.due("10 of 1000", outcomeOfAShift(1, 10, 990), TransitMeter.GOOD);
        Check.due("9 of 1000", outcomeOfAShift(1, 9, 991), TransitMeter.CORRECTED);
        Check.due("1 of 100", outcomeOfAShift(1, 1, 99), TransitMeter.GOOD);
        Check.due("1 of 101", outcomeOfAShift(1, 1, 100), TransitMeter.CORRECTED);
    }

    private static void voteOfAHundredPercent() {
        Check.due("1 of 1", outcomeOfAShift(100, 1), TransitMeter.GOOD);
        Check.due("1000 of 1001", outcomeOfAShift(100, 1000, 1), TransitMeter.CORRECTED);
        TransitMeter x = Check.withReferences(1000, 1000, 1000, 1);
        x.set(2, 100);
        for (int path = 0; path < 3; path++) {
            Check.aim(x, path, 101000, 100000);
        }
        Check.aim(x, 3, 100000, 100000);
        Check.due("3000 of 3001", x.wouldBecome(0), TransitMeter.CORRECTED);
        Check.aim(x, 3, 101000, 100000);
        Check.due("3001 of 3001", x.wouldBecome(0), TransitMeter.GOOD);
    }

    private static void voteOfExactlyAsMuch() {
        Check.due("25 percent of 25", outcomeOfAShift(25, 1000, 1000, 1000, 1000), TransitMeter.GOOD);
        Check.due("25 percent of 26", outcomeOfAShift(26, 1000, 1000, 1000, 1000), TransitMeter.CORRECTED);
        Check.due("60 percent of 60", outcomeOfAShift(60, 3, 2), TransitMeter.GOOD);
        Check.due("60 percent of 61", outcomeOfAShift(61, 3, 2), TransitMeter.CORRECTED);
        // 33.33.. percent, which are not rounded
        Check.due("a third of 33", outcomeOfAShift(33, 1, 1, 1), TransitMeter.GOOD);
        Check.due("a third of 34", outcomeOfAShift(34, 1, 1, 1), TransitMeter.CORRECTED);
        Check.due("two thirds of 66", outcomeOfAShift(66, 2, 1), TransitMeter.GOOD);
        Check.due("two thirds of 67", outcomeOfAShift(67, 2, 1), TransitMeter.CORRECTED);
    }

    private static void oppositeShiftsAreApart() {
        for (int vote : new int[] {50, 51}) {
            TransitMeter x = Check.withReferences(1, 1);
            x.set(2, vote);
            Check.aim(x, 0, 101000, 100000);
            Check.aim(x, 1, 99000, 100000);
            x.close();
            Check.due("true shifts, vote " + vote, x.round(0, 5), vote == 50 ? 2 : 0);
            int due = vote == 50 ? TransitMeter.GOOD : TransitMeter.CORRECTED;
            Check.due("became of 0, vote " + vote, x.path(0, 8), due);
            Check.due("became of 1, vote " + vote, x.path(1, 8), due);
            Check.due("reference of 1, vote " + vote, x.path(1, 5), vote == 50 ? 99000 : 100000);
        }
    }

    private static int outcomeOf(int forwardShift, int backwardShift, int mostSkips) {
        TransitMeter x = Check.withReferences(1, 9);
        x.set(1, mostSkips);
        Check.aim(x, 0, 100000 + forwardShift * 1000, 100000 + backwardShift * 1000);
        Check.aim(x, 1, 100000, 100000);
        return x.wouldBecome(0);
    }

    private static void oneWayAboveIsEnough() {
        Check.due("3 and 0 of 2", outcomeOf(3, 0, 2), TransitMeter.OUTLIER);
        Check.due("0 and 3 of 2", outcomeOf(0, 3, 2), TransitMeter.OUTLIER);
        Check.due("-3 and 1 of 2", outcomeOf(-3, 1, 2), TransitMeter.OUTLIER);
        Check.due("1 and -3 of 2", outcomeOf(1, -3, 2), TransitMeter.OUTLIER);
        Check.due("2 and -2 of 2", outcomeOf(2, -2, 2), TransitMeter.CORRECTED);
        Check.due("2 and 2 of 2", outcomeOf(2, 2, 2), TransitMeter.CORRECTED);
        Check.due("0 and 0 of 2", outcomeOf(0, 0, 2), TransitMeter.GOOD);
    }

    private static void shiftsAtTheMostSkips() {
        Check.due("0 of 0", outcomeOf(0, 0, 0), TransitMeter.GOOD);
        Check.due("1 of 0", outcomeOf(1, 0, 0), TransitMeter.OUTLIER);
        Check.due("-1 of 0", outcomeOf(0, -1, 0), TransitMeter.OUTLIER);
        Check.due("5 of 5", outcomeOf(5, 0, 5), TransitMeter.CORRECTED);
        Check.due("-5 of 5", outcomeOf(0, -5, 5), TransitMeter.CORRECTED);
        Check.due("6 of 5", outcomeOf(6, 0, 5), TransitMeter.OUTLIER);
        Check.due("-6 of 5", outcomeOf(0, -6, 5), TransitMeter.OUTLIER);
    }

    private static void trueShiftThatMakesNoOutlier() {
        TransitMeter x = Check.withReferences(3, 2);
        x.set(1, 0);
        Check.aim(x, 0, 109000, 100000);
        Check.aim(x, 1, 100000, 100000);
        x.close();
        Check.due("9 of 0, but true", x.path(0, 8), TransitMeter.GOOD);
        Check.due("reference", x.path(0, 5), 109000);
        Check.due("corrected so far", x.path(0, 11), 0);
    }

    private static void referenceBeyondTheGreatestTime() {
        TransitMeter x = new TransitMeter();
        x.addPath(100, 50, 1, 10000, 0);
        x.addPath(100, 50, 9, 10000, 0);
        Check.aim(x, 0, 9999999, 9999999);
        Check.aim(x, 1, 100000, 100000);
        x.close();
        Check.aim(x, 0, 9994998, 9999999);
        Check.aim(x, 1, 100000, 100000);
        x.close();
        Check.due("corrected by a period", x.path(0, 8), TransitMeter.CORRECTED);
        Check.due("reference", x.path(0, 5), 10004998);
        // 1e8 * -4999 / 100049969995 = -4.9
        Check.due("velocity", x.path(0, 9), -4);
        // 100 * 500000 * 20004997 / 100049969995 = 9997.5
        Check.due("sound", x.sound(0), 9997);
    }

    private static void velocityLimits() {
        TransitMeter x = Check.withPaths(1);
        Check.aim(x, 0, 1000, 9999999);
        Check.due("close(), at most", x.close(), 100000);
        Check.due("path", x.path(0, 9), 100000);
        Check.due("mean", x.round(0, 1), 100000);
        x.forget(0);
        Check.aim(x, 0, 9999999, 1000);
        Check.due("close(), at least", x.close(), -100000);
        Check.due("path", x.path(0, 9), -100000);
        Check.due("mean", x.round(0, 1), -100000);
    }

    private static void twelveLostRounds() {
        TransitMeter x = Check.withPaths(1);
        Check.aim(x, 0, 100000, 101000);
        x.close();
        for (int lost = 1; lost <= 12; lost++) {
            Check.due("one that was not lost is kept", x.statistic(0), 1);
            Check.due("close()", x.close(), Check.NONE);
            Check.due("lost", x.total(4), lost);
        }
        Check.due("none is left", x.statistic(0), 0);
        for (int which = 1; which <= 4; which++) {
            Check.due("statistic(" + which + ")", x.statistic(which), Check.NONE);
        }
        Check.due("twelve are kept", x.total(5), 12);
        Check.due("the volume stays", x.volume(0), 9900000);
    }

    /** One that is missing, one that is weak and one that is an outlier. */
    private static void substitutesEachKind() {
        TransitMeter x = Check.withPaths(1, 1, 1, 1);
        for (int path = 0; path < 4; path++) {
            Check.aim(x, path, 100000, 101000);
        }
        x.close();
        x.shot(1, 100000, 105000, 39);
        Check.aim(x, 2, 110000, 101000);
        Check.aim(x, 3, 100000, 101000);
        Check.due("close()", x.close(), 9900);
        int[] became = {TransitMeter.MISSING, TransitMeter.WEAK, TransitMeter.OUTLIER, TransitMeter.GOOD};
        for (int path = 0; path < 4; path++) {
            Check.due("became of " + path, x.path(path, 8), became[path]);
            Check.due("velocity of " + path, x.path(path, 9), 9900);
        }
        Check.due("accepted", x.round(0, 2), 8);
        Check.due("substituted", x.round(0, 4), 7);
        Check.due("corrected", x.round(0, 3), 0);
    }

    private static void ratioOfZero() {
        TransitMeter x = Check.withPaths(1, 3);
        Check.aim(x, 0, 100000, 101000);
        Check.aim(x, 1, 100000, 100000);
        x.close();
        Check.due("ratio", x.path(1, 7), 0);
        Check.aim(x, 0, 100000, 101000);
        Check.due("close()", x.close(), 2475);
        Check.due("substituted", x.round(0, 4), 2);
        Check.due("by 0", x.path(1, 9), 0);
    }

    private static void noneAcceptedNoneSubstituted() {
        TransitMeter x = Check.withPaths(1, 1);
        Check.aim(x, 0, 100000, 101000);
        Check.aim(x, 1, 100000, 101000);
        x.close();
        x.shot(0, 100000, 101000, 39);
        Check.due("wouldBe()", x.wouldBe(), Check.NONE);
        Check.due("close()", x.close(), Check.NONE);
        Check.due("substituted", x.round(0, 4), 0);
        Check.due("no velocity of 0", x.path(0, 9), Check.NONE);
        Check.due("no velocity of 1", x.path(1, 9), Check.NONE);
        Check.due("the ratio stays", x.path(0, 7), 1000);
    }

    private static void meanThatBecomesZero() {
        for (int sign = -1; sign <= 1; sign += 2) {
            TransitMeter x = Check.withPaths(1, 99);
            Check.aim(x, 0, sign > 0 ? 100000 : 100001, sign > 0 ? 100001 : 100000);
            Check.aim(x, 1, 100000, 100000);
            // 9 and 0: 9 / 100 is 0
            Check.due("close()", x.close(), 0);
            Check.due("velocity of 0", x.path(0, 9), sign * 9);
            Check.due("mean", x.round(0, 1), 0);
            Check.due("no ratio of 0", x.path(0, 7), Check.NONE);
            Check.due("no ratio of 1", x.path(1, 7), Check.NONE);
            Check.due("not lost", x.total(4), 0);
        }
    }

    private static void oppositeFlows() {
        TransitMeter x = Check.withPaths(1, 1);
        Check.aim(x, 0, 100000, 101000);
        Check.aim(x, 1, 101000, 100000);
        Check.due("close()", x.close(), 0);
        Check.due("no ratio of 0", x.path(0, 7), Check.NONE);
        Check.due("no ratio of 1", x.path(1, 7), Check.NONE);
        Check.due("no volume forward", x.volume(0), 0);
        Check.due("nor backward", x.volume(1), 0);
        Check.due("it counts", x.statistic(0), 1);
    }

    /** Each accepted path gets a ratio, a corrected one as well, in place of the one that it has. */
    private static void ratioOfACorrectedOne() {
        TransitMeter x = Check.withReferences(1, 9);
        Check.aim(x, 0, 101000, 100100);
        Check.aim(x, 1, 100000, 100100);
        Check.due("close()", x.close(), 999);
        Check.due("corrected", x.path(0, 8), TransitMeter.CORRECTED);
        Check.due("its first ratio", x.path(0, 7), 1000);
        Check.aim(x, 0, 101000, 100200);
        Check.aim(x, 1, 100000, 100100);
        // 1996 and 999: (1996 + 8991) / 10 = 1098, and 1996000 / 1098 = 1817.8
        Check.due("close()", x.close(), 1098);
        Check.due("its ratio then", x.path(0, 7), 1817);
        Check.due("ratio of the other one", x.path(1, 7), 909);
    }

    private static void ratioOfExactlyTheLimit() {
        int[] third = {2, 3};
        for (int weight : third) {
            TransitMeter x = Check.withPaths(1, 2, weight);
            Check.aim(x, 0, 101000, 100000);
            Check.aim(x, 1, 100000, 101000);
            Check.aim(x, 2, 100000, 100000);
            // 9900 / 5 = 1980, by which 9900000 is 5000; 9900 / 6 = 1650, by which it is 6000
            Check.due("close()", x.close(), weight == 2 ? 1980 : 1650);
            Check.due("at least -5000", x.path(0, 7), -5000);
            Check.due("at most 5000", x.path(1, 7), 5000);
            Check.due("0", x.path(2, 7), 0);
        }
        TransitMeter within = Check.withPaths(1, 3);
        Check.aim(within, 0, 100000, 101000);
        Check.aim(within, 1, 100000, 100000);
        within.close();
        Check.due("4000", within.path(0, 7), 4000);
    }

    private static void factorOfAMeanBeyondTheTable() {
        for (int sign = -1; sign <= 1; sign += 2) {
            TransitMeter x = Check.withPaths(1, 9, 1);
            aimSigned(x, 0, 101000, 100000, sign);
            aimSigned(x, 1, 100000, 100200, sign);
            // (-9900 + 9 * 1996) / 10 = 806, the ratios are -5000 and 2476
            Check.due("close()", x.close(), sign * 806);
            x.setPoint(0, 500);
            x.setPoint(100000, 1400);
            aimSigned(x, 2, 1000, 9999999, sign);
            // (-500000 + 9 * 247600 + 100000) / 11 = 166218, and this * 1400 / 1000 = 232705.2
            Check.due("wouldBe()", x.wouldBe(), sign * 232705);
            Check.due("close()", x.close(), sign * 232705);
            Check.due("mean", x.round(0, 1), sign * 166218);
            // 806 * 10000 * 100 / 1000 and 232705 * 1000
            Check.due("volume", x.volume(sign > 0 ? 0 : 1), 806000 + 232705000);
            Check.due("none the other way", x.volume(sign > 0 ? 1 : 0), 0);
        }
    }

    private static void aimSigned(TransitMeter x, int path, int forward, int backward, int sign) {
        Check.aim(x, path, sign > 0 ? forward : backward, sign > 0 ? backward : forward);
    }

    private static void factorsAtTheirBounds() {
        TransitMeter x = Check.withPaths(1);
        int[] factors = {500, 1000, 1500};
        int[] due = {4950, 9900, 14850};
        for (int i = 0; i < factors.length; i++) {
            x.setPoint(9900, factors[i]);
            Check.aim(x, 0, 100000, 101000);
            Check.due("forward, factor " + factors[i], x.close(), due[i]);
            Check.aim(x, 0, 101000, 100000);
            Check.due("backward, factor " + factors[i], x.close(), -due[i]);
            Check.due("mean", x.round(0, 1), -9900);
        }
    }

    private static void volumesAddUp() {
        TransitMeter x = Check.withPaths(1);
        x.set(3, 1000000);
        x.set(4, 1000);
        x.setPoint(0, 1500);
        for (int i = 1; i <= 30; i++) {
            x.forget(0);
            Check.aim(x, 0, 1000, 9999999);
            x.close();
            Check.due("forward, " + i, x.volume(0), i * 150000000000L);
            Check.due("both, " + i, x.volume(2), 150000000000L);
            x.forget(0);
            Check.aim(x, 0, 9999999, 1000);
            x.close();
            Check.due("backward, " + i, x.volume(1), i * 150000000000L);
            Check.due("both, " + i, x.volume(2), 0);
        }
    }

    private static void undoneThirteenthRound() {
        TransitMeter x = Check.withPaths(1);
        for (int i = 0; i < 12; i++) {
            Check.aim(x, 0, 100000, 100100 + i);
            x.close();
        }
        int oldest = x.round(11, 0);
        Check.due("the oldest", oldest, 999);
        Check.aim(x, 0, 100000, 100200);
        x.close();
        Check.due("the one before is the oldest", x.round(11, 0), 1008);
        Check.due("closed", x.total(3), 13);
        x.undo();
        Check.due("the oldest is back", x.round(11, 0), oldest);
        Check.due("closed", x.total(3), 12);
        Check.due("kept", x.total(5), 12);
        Check.due("least", x.statistic(1), 999);
    }

    private static void thirtyRounds() {
        TransitMeter x = Check.withPaths(1);
        for (int i = 0; i < 30; i++) {
            Check.aim(x, 0, 300000, 300000 + i);
            x.close();
            for (int back = 0; back <= 12; back++) {
                // 1e8 * i / 90000300 .. is i * 1.11..
                int due = back > i || back == 12 ? Check.BAD_INDEX : (int) (100000000L * (i - back)
                        / (300000L * (300000 + i - back) / 1000));
                Check.due("after " + i + ": round(" + back + ", 0)", x.round(back, 0), due);
            }
        }
        Check.due("closed", x.total(3), 30);
        Check.due("kept", x.total(5), 12);
        Check.due("least of the kept", x.statistic(1), 19);
    }

    private static void goneAfterALostRound() {
        TransitMeter x = Check.withReferences(1, 1, 1);
        x.shot(0, 100000, 100000, 39);
        Check.aim(x, 1, 110000, 100000);
        Check.aim(x, 2, 120000, 100000);
        Check.due("close()", x.close(), Check.NONE);
        for (int path = 0; path < 3; path++) {
            Check.due("no shot of " + path, x.told(path, 0), Check.NONE);
            Check.due("missing then: " + path, x.wouldBecome(path), TransitMeter.MISSING);
        }
        Check.due("total(2)", x.total(2), 0);
        Check.due("the first of the next round", x.shot(1, 5000, 5000, 50), 1);
    }

    private static void failsByAnyKind() {
        TransitMeter x = Check.withReferences(1, 9);
        Check.aim(x, 1, 100000, 100000);
        x.close();
        x.shot(0, 100000, 100000, 39);
        Check.aim(x, 1, 100000, 100000);
        x.close();
        Check.due("not after two", x.path(0, 13), 0);
        Check.due("none fails", x.total(7), 0);
        Check.aim(x, 0, 110000, 100000);
        Check.aim(x, 1, 100000, 100000);
        x.close();
        Check.due("became", x.path(0, 8), TransitMeter.OUTLIER);
        Check.due("three, one after the other", x.path(0, 10), 3);
        Check.due("it fails", x.path(0, 13), 1);
        Check.due("one fails", x.total(7), 1);
    }

    private static void failsOnlyOneAfterTheOther() {
        TransitMeter x = Check.withPaths(1, 1);
        for (int i = 0; i < 9; i++) {
            if (i % 3 == 2) {
                Check.aim(x, 0, 100000, 100000);
            }
            Check.aim(x, 1, 100000, 100000);
            x.close();
            Check.due("one after the other, round " + i, x.path(0, 10), (i + 1) % 3);
            Check.due("it does not fail, round " + i, x.path(0, 13), 0);
        }
    }

    private static void correctedIsAccepted() {
        TransitMeter x = Check.withReferences(1, 9);
        for (int i = 0; i < 3; i++) {
            Check.aim(x, 1, 100000, 100000);
            x.close();
        }
        Check.due("it fails", x.path(0, 13), 1);
        Check.aim(x, 0, 102000, 100000);
        Check.aim(x, 1, 100000, 100000);
        x.close();
        Check.due("corrected", x.path(0, 8), TransitMeter.CORRECTED);
        Check.due("it does not fail any more", x.path(0, 13), 0);
        Check.due("from 0 again", x.path(0, 10), 0);
        Check.due("reference, less two periods", x.path(0, 5), 100000);
    }

    /** 100 calls of append, one of addPath and 410 of run, each with 50 rounds. */
    private static void all512Calls() {
        TransitMeter x = new TransitMeter();
        for (int i = 0; i < 100; i++) {
            x.append(i % 2 == 0 ? 'c' : ';');
        }
        x.addPath(100, 50, 1, 1000, 0);
        for (int i = 0; i < 410; i++) {
            Check.due("run()", x.run(), 50);
        }
        Check.due("the 512th call: closed", x.total(3), 20500);
        TransitMeter y = new TransitMeter();
        y.addPath(100, 50, 1, 1000, 0);
        for (int i = 0; i < 510; i++) {
            y.close();
        }
        Check.due("the 512th call: not accepted", y.path(0, 10), 510);
    }
}
