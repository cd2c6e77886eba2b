/** Promise 8 and the eight steps of closing a round. */
public final class CloseTest {
    public static void main(String[] args) {
        withoutPaths();
        missingAndWeak();
        roundsShifts();
        voteThreshold();
        voteCountsOnlyVoters();
        severalTrueShifts();
        forwardApartFromBackward();
        mostSkips();
        correctedTimes();
        tooEarlyAfterCorrection();
        referencesOfTheNotAccepted();
        lostRound();
        lostRoundWithTrueShifts();
        weightedMean();
        substitution();
        ratios();
        ratioLimits();
        meanOfZero();
        profileAndVolume();
        volumeRounding();
        keepsTwelve();
        failing();
        Check.finish();
    }

    private static void withoutPaths() {
        TransitMeter x = new TransitMeter();
        Check.due("close() without paths", x.close(), Check.NOT_POSSIBLE);
        Check.due("it is not recorded", x.total(8), 0);
        Check.due("it is no round", x.total(3), 0);
    }

    private static void missingAndWeak() {
        TransitMeter x = Check.withPaths(1, 1, 1);
        x.shot(0, 100000, 101000, 40);
        x.shot(1, 100000, 105000, 39);
        Check.due("close()", x.close(), 9900);
        Check.due("quality 40 is enough", x.path(0, 8), TransitMeter.GOOD);
        Check.due("quality 39 is weak", x.path(1, 8), TransitMeter.WEAK);
        Check.due("no shot is missing", x.path(2, 8), TransitMeter.MISSING);
        Check.due("accepted", x.round(0, 2), 1);
        Check.due("substituted, without ratios", x.round(0, 4), 0);
        Check.due("the weak one has no velocity", x.path(1, 9), Check.NONE);
        Check.due("the shots are gone", x.total(2), 0);
        Check.due("the shot is gone", x.told(0, 0), Check.NONE);
        x.set(0, 0);
        x.shot(1, 100000, 101000, 0);
        x.close();
        Check.due("quality 0 is enough for 0", x.path(1, 8), TransitMeter.GOOD);
        Check.due("close is recorded", x.total(8), 5);
        x.undo();
        Check.due("undone close", x.total(3), 1);
        Check.due("undone close, the shot", x.told(1, 0), 100000);
    }

    /** Half a period is rounded to the nearer to zero; the heavy path 1 keeps the vote from being true. */
    private static void roundsShifts() {
        int[] differences = {0, 500, 501, 1500, 1501, 2500, 2501, -500, -501, -1500, -1501, -2500, -2501};
        int[] shifts = {0, 0, 1, 1, 2, 2, 3, 0, -1, -1, -2, -2, -3};
        for (int i = 0; i < differences.length; i++) {
            boolean isOut = Math.abs(shifts[i]) > 2;
            int outcome = isOut ? TransitMeter.OUTLIER : shifts[i] == 0 ? TransitMeter.GOOD : TransitMeter.CORRECTED;
            for (int backward = 0; backward <= 1; backward++) {
                TransitMeter x = Check.withReferences(1, 9);
                int time = 100000 + differences[i];
                Check.aim(x, 0, backward == 0 ? time : 100000, backward == 0 ? 100000 : time);
                Check.aim(x, 1, 100000, 100000);
                x.close();
                Check.due("outcome with " + differences[i], x.path(0, 8), outcome);
                int due = isOut ? 100000 : time - shifts[i] * 1000;
                Check.due("reference with " + differences[i], x.path(0, 5 + backward), due);
                Check.due("true shifts", x.round(0, 5), 0);
            }
        }
        TransitMeter odd = new TransitMeter();
        odd.addPath(100, 50, 1, 101, 0);
        odd.addPath(100, 50, 99, 101, 0);
        for (int difference : new int[] {0, 50, 101, -51}) {
            Check.aim(odd, 0, 100000 + difference, 100000);
            Check.aim(odd, 1, 100000, 100000);
            odd.close();
        }
        Check.due("-51 of 101 is a period", odd.path(0, 5), 100050);
    }

    private static void voteThreshold() {
        for (int vote : new int[] {59, 60, 61, 100}) {
            TransitMeter x = Check.withReferences(3, 2);
            x.set(2, vote);
            Check.aim(x, 0, 101000, 100000);
            Check.aim(x, 1, 100000, 100000);
            x.close();
            boolean isTrue = vote <= 60;
            Check.due("3 of 5 against " + vote, x.round(0, 5), isTrue ? 1 : 0);
            Check.due("outcome", x.path(0, 8), isTrue ? TransitMeter.GOOD : TransitMeter.CORRECTED);
            Check.due("reference", x.path(0, 5), isTrue ? 101000 : 100000);
        }
        for (int weight : new int[] {599, 600}) {
            TransitMeter x = Check.withReferences(weight, 1000 - weight);
            Check.aim(x, 0, 101000, 100000);
            Check.aim(x, 1, 100000, 100000);
            x.close();
            Check.due(weight + " of 1000 against 60", x.round(0, 5), weight == 600 ? 1 : 0);
        }
        TransitMeter all = Check.withReferences(1, 1000);
        all.set(2, 100);
        Check.aim(all, 0, 107000, 100000);
        Check.aim(all, 1, 107000, 100000);
        all.close();
        Check.due("all of all is true", all.round(0, 5), 1);
        Check.due("with any number of periods", all.path(1, 5), 107000);
    }

    private static void voteCountsOnlyVoters() {
        TransitMeter x = Check.withReferences(3, 1000, 1000, 2);
        x.forget(1);
        x.shot(0, 101000, 100000, 90);
        x.shot(1, 100000, 100000, 90);
        x.shot(2, 100000, 100000, 39);
        x.shot(3, 100000, 100000, 90);
        Check.due("a path without references is accepted", x.wouldBecome(1), TransitMeter.GOOD);
        Check.due("a weak one is not", x.wouldBecome(2), TransitMeter.WEAK);
        Check.due("3 of 3 and 2", x.wouldBecome(0), TransitMeter.GOOD);
        x.set(2, 61);
        Check.due("3 of 3 and 2 against 61", x.wouldBecome(0), TransitMeter.CORRECTED);
        x.shot(3, 101000, 100000, 39);
        Check.due("3 of 3 alone", x.wouldBecome(0), TransitMeter.GOOD);
        TransitMeter missing = Check.withReferences(1, 1000);
        Check.aim(missing, 0, 105000, 100000);
        Check.due("a missing one has no vote", missing.wouldBecome(0), TransitMeter.GOOD);
    }

    private static void severalTrueShifts() {
        TransitMeter x = Check.withReferences(2, 2, 1, 1);
        x.set(2, 33);
        Check.aim(x, 0, 101000, 98000);
        Check.aim(x, 1, 103000, 98000);
        Check.aim(x, 2, 100000, 98000);
        Check.aim(x, 3, 101000, 97000);
        // forward: 1 has the weight 3 of 6, 3 has 2 (33.3 percent); backward: -2 has 5, -3 has 1 (16.7 percent)
        Check.due("close() is a number", x.close() > -1000000 ? 1 : 0, 1);
        Check.due("three true shifts", x.round(0, 5), 3);
        Check.due("true both ways", x.path(0, 8), TransitMeter.GOOD);
        Check.due("3 periods are true", x.path(1, 8), TransitMeter.GOOD);
        Check.due("its reference", x.path(1, 5), 103000);
        Check.due("no forward shift", x.path(2, 8), TransitMeter.GOOD);
        Check.due("-3 is not true and above 2", x.path(3, 8), TransitMeter.OUTLIER);
        TransitMeter zero = Check.withReferences(1, 1, 1);
        zero.set(2, 1);
        Check.aim(zero, 0, 100000, 100000);
        Check.aim(zero, 1, 100000, 100000);
        Check.aim(zero, 2, 100000, 99000);
        zero.close();
        Check.due("the shift 0 is not counted", zero.round(0, 5), 1);
    }

    private static void forwardApartFromBackward() {
        TransitMeter x = Check.withReferences(1, 1);
        Check.aim(x, 0, 101000, 100000);
        Check.aim(x, 1, 100000, 101000);
        x.close();
        Check.due("half each way is not true", x.round(0, 5), 0);
        Check.due("0 is corrected", x.path(0, 8), TransitMeter.CORRECTED);
        Check.due("1 is corrected", x.path(1, 8), TransitMeter.CORRECTED);
        Check.aim(x, 0, 101000, 101000);
        Check.aim(x, 1, 101000, 100000);
        x.close();
        Check.due("forward true, backward not", x.round(0, 5), 1);
        Check.due("0 is corrected backward", x.path(0, 8), TransitMeter.CORRECTED);
        Check.due("0 forward is new", x.path(0, 5), 101000);
        Check.due("0 backward is as before", x.path(0, 6), 100000);
        Check.due("1 is good", x.path(1, 8), TransitMeter.GOOD);
        Check.aim(x, 0, 102000, 101000);
        Check.aim(x, 1, 102000, 101000);
        x.close();
        Check.due("the same both ways is two", x.round(0, 5), 2);
        x.close();
        Check.due("none without shots", x.round(0, 5), 0);
        Check.due("two in the round before", x.round(1, 5), 2);
        x.undo();
        Check.due("two in the latest round again", x.round(0, 5), 2);
        Check.due("one in the round before", x.round(1, 5), 1);
    }

    private static void mostSkips() {
        for (int most = 0; most <= 5; most++) {
            for (int shift = -6; shift <= 6; shift++) {
                if (shift == 0) {
                    continue;
                }
                TransitMeter x = Check.withReferences(1, 9);
                x.set(1, most);
                Check.aim(x, 0, 100000, 100000 + shift * 1000);
                Check.aim(x, 1, 100000, 100000);
                x.close();
                int due = Math.abs(shift) > most ? TransitMeter.OUTLIER : TransitMeter.CORRECTED;
                Check.due("shift " + shift + ", most " + most, x.path(0, 8), due);
                Check.due("accepted", x.round(0, 2), due == TransitMeter.CORRECTED ? 3 : 2);
                Check.due("corrected", x.round(0, 3), due == TransitMeter.CORRECTED ? 1 : 0);
            }
        }
    }

    private static void correctedTimes() {
        TransitMeter x = Check.withReferences(1, 9);
        Check.aim(x, 0, 101990, 99020);
        Check.aim(x, 1, 100000, 100000);
        // path 0: 99990 and 100020: 1e8 * 30 / 10000999 = 299; the mean is 299 / 10
        Check.due("close()", x.close(), 29);
        Check.due("its velocity", x.path(0, 9), 299);
        Check.due("its reference forward", x.path(0, 5), 99990);
        Check.due("its reference backward", x.path(0, 6), 100020);
        Check.due("corrected so far", x.path(0, 11), 1);
        Check.due("outlier so far", x.path(0, 12), 0);
        Check.due("accepted", x.round(0, 2), 3);
        Check.due("corrected", x.round(0, 3), 1);
        Check.due("substituted", x.round(0, 4), 0);
        Check.aim(x, 0, 100000, 100000);
        x.close();
        Check.due("none is corrected in the next round", x.round(0, 3), 0);
        Check.due("it stays in the one before", x.round(1, 3), 1);
    }

    private static void tooEarlyAfterCorrection() {
        for (int net : new int[] {999, 1000}) {
            for (int backward = 0; backward <= 1; backward++) {
                TransitMeter x = new TransitMeter();
                x.addPath(100, 50, 1, 1000, 70);
                x.addPath(100, 50, 9, 1000, 0);
                int early = 1070 + 400;
                Check.aim(x, 0, backward == 0 ? early : 9000, backward == 0 ? 9000 : early);
                Check.aim(x, 1, 9000, 9000);
                x.close();
                int time = 1000 + 70 + net;
                Check.aim(x, 0, backward == 0 ? time : 9000, backward == 0 ? 9000 : time);
                Check.aim(x, 1, 9000, 9000);
                int due = net == 1000 ? TransitMeter.CORRECTED : TransitMeter.OUTLIER;
                Check.due("would become with net " + net, x.wouldBecome(0), due);
                Check.due("skips needed with net " + net, x.skipsNeeded(), net == 1000 ? 1 : Check.NONE);
                x.close();
                Check.due("became with net " + net, x.path(0, 8), due);
                Check.due("reference", x.path(0, 5 + backward), net == 1000 ? 1070 : early);
                Check.due("outlier so far", x.path(0, 12), net == 1000 ? 0 : 1);
            }
        }
    }

    private static void referencesOfTheNotAccepted() {
        TransitMeter x = Check.withReferences(1, 1, 1, 9);
        x.shot(1, 100100, 100200, 39);
        x.shot(2, 108000, 100200, 90);
        x.shot(3, 100100, 100200, 90);
        x.close();
        for (int path = 0; path < 3; path++) {
            Check.due("reference forward of " + path, x.path(path, 5), 100000);
            Check.due("reference backward of " + path, x.path(path, 6), 100000);
            Check.due("not accepted: " + path, x.path(path, 10), 1);
            Check.due("became of " + path, x.path(path, 8), path);
        }
        Check.due("reference of the accepted", x.path(3, 5), 100100);
        Check.due("reference of the accepted", x.path(3, 6), 100200);
        Check.due("accepted", x.round(0, 2), 8);
    }

    private static void lostRound() {
        TransitMeter x = Check.withPaths(1, 1);
        Check.aim(x, 0, 100000, 101000);
        x.close();
        long volume = x.volume(0);
        int recorded = x.total(8);
        Check.due("close() without shots", x.close(), Check.NONE);
        Check.due("a lost round is recorded", x.total(8), recorded + 1);
        Check.due("closed", x.total(3), 2);
        Check.due("lost", x.total(4), 1);
        Check.due("kept", x.total(5), 2);
        Check.due("velocity", x.round(0, 0), Check.NONE);
        Check.due("mean", x.round(0, 1), Check.NONE);
        for (int property = 2; property <= 5; property++) {
            Check.due("property " + property, x.round(0, property), 0);
        }
        Check.due("no volume is counted", x.volume(0), volume);
        Check.due("no volume is counted", x.volume(1), 0);
        Check.due("nothing is substituted", x.path(0, 9), Check.NONE);
        Check.due("the ratio stays", x.path(0, 7), 1000);
        Check.due("what became of it", x.path(0, 8), TransitMeter.MISSING);
        x.undo();
        Check.due("undone lost round", x.total(4), 0);
    }

    private static void lostRoundWithTrueShifts() {
        TransitMeter x = Check.withReferences(1, 1);
        Check.aim(x, 0, 101000, 110000);
        Check.aim(x, 1, 101000, 120000);
        Check.due("close()", x.close(), Check.NONE);
        Check.due("a true shift in a lost round", x.round(0, 5), 1);
        Check.due("outliers", x.path(0, 8) + x.path(1, 8), 2 * TransitMeter.OUTLIER);
        Check.due("the reference stays", x.path(0, 5), 100000);
    }

    private static void weightedMean() {
        TransitMeter x = Check.withPaths(3, 5, 7);
        Check.aim(x, 0, 100000, 101000);
        Check.aim(x, 1, 100000, 100100);
        Check.aim(x, 2, 100100, 100000);
        // 9900, 999 and -999 (999.0009..): 3 * 9900 + 5 * 999 - 7 * 999 = 27702, / 15 = 1846.8
        Check.due("close()", x.close(), 1846);
        Check.due("mean", x.round(0, 1), 1846);
        Check.due("velocity", x.round(0, 0), 1846);
        Check.due("path 2", x.path(2, 9), -999);
        TransitMeter down = Check.withPaths(3, 4);
        Check.aim(down, 0, 101000, 100000);
        Check.aim(down, 1, 100000, 100000);
        // -29700 / 7 = -4242.8
        Check.due("rounded towards zero", down.close(), -4242);
    }

    private static void substitution() {
        TransitMeter x = Check.withPaths(1, 2, 5);
        Check.aim(x, 0, 100000, 101000);
        Check.aim(x, 1, 100000, 100100);
        x.close();
        // (9900 + 1998) / 3 = 3966; ratios 9900000 / 3966 = 2496 and 999000 / 3966 = 251
        Check.due("mean", x.round(0, 1), 3966);
        Check.due("ratio of 0", x.path(0, 7), 2496);
        Check.due("ratio of 1", x.path(1, 7), 251);
        Check.due("no ratio of 2", x.path(2, 7), Check.NONE);
        Check.aim(x, 1, 100000, 100100);
        // first mean 999; 0 is substituted by 999 * 2496 / 1000 = 2493; mean (2493 + 1998) / 3 = 1497
        Check.due("close()", x.close(), 1497);
        Check.due("substituted", x.round(0, 4), 1);
        Check.due("accepted", x.round(0, 2), 2);
        Check.due("substituted velocity", x.path(0, 9), 2493);
        Check.due("2 has no ratio", x.path(2, 9), Check.NONE);
        Check.due("ratio of 0 stays", x.path(0, 7), 2496);
        Check.due("ratio of 1 is new", x.path(1, 7), 667);
        x.shot(0, 100000, 101000, 39);
        x.shot(1, 120000, 100100, 90);
        Check.aim(x, 2, 100000, 101000);
        // 1 votes alone, so its shift is true: 120000, 100100: 1e8 * -19900 / 12012000 = -165667, limited
        Check.due("a wide path", x.wouldBecome(1), TransitMeter.GOOD);
        // first mean (2 * -100000 + 5 * 9900) / 7 = -21500; 0: -21500 * 2496 / 1000 = -53664
        // mean (-53664 - 200000 + 49500) / 8 = -25520
        Check.due("close()", x.close(), -25520);
        Check.due("a weak one is substituted", x.path(0, 9), -53664);
        Check.due("substituted", x.round(0, 4), 1);
        x.close();
        Check.due("none is substituted in a lost round", x.round(0, 4), 0);
        Check.aim(x, 0, 100000, 101000);
        Check.aim(x, 1, 120000, 100100);
        Check.aim(x, 2, 100000, 101000);
        x.close();
        Check.due("none is substituted where all are accepted", x.round(0, 4), 0);
        Check.due("accepted", x.round(0, 2), 7);
    }

    private static void ratios() {
        TransitMeter x = Check.withPaths(1, 1);
        Check.aim(x, 0, 100100, 100000);
        Check.aim(x, 1, 100000, 101000);
        // -999 and 9900: mean 8901 / 2 = 4450; ratios -999000 / 4450 = -224 and 9900000 / 4450 = 2224
        x.close();
        Check.due("ratio of 0", x.path(0, 7), -224);
        Check.due("ratio of 1", x.path(1, 7), 2224);
        Check.aim(x, 1, 100000, 101000);
        x.close();
        // 9900 * -224 / 1000 = -2217
        Check.due("substituted by a ratio below 0", x.path(0, 9), -2217);
    }

    private static void ratioLimits() {
        TransitMeter x = Check.withPaths(1, 9);
        Check.aim(x, 0, 100000, 101000);
        Check.aim(x, 1, 100000, 100000);
        x.close();
        Check.due("mean", x.round(0, 1), 990);
        Check.due("at most 5000", x.path(0, 7), 5000);
        Check.due("a ratio of 0", x.path(1, 7), 0);
        TransitMeter low = Check.withPaths(1, 9, 1);
        Check.aim(low, 0, 101000, 100000);
        Check.aim(low, 1, 100000, 100200);
        low.close();
        // -9900 + 9 * 1996 = 8064, / 10 = 806
        Check.due("mean", low.round(0, 1), 806);
        Check.due("at least -5000", low.path(0, 7), -5000);
        Check.aim(low, 2, 1000, 9999999);
        low.close();
        // 2 has 100000; 0: -500000; 1: 1996000 / 806 = 2476, so 247600; (-500000 + 2228400 + 100000) / 11
        Check.due("substituted beyond 100000", low.path(0, 9), -500000);
        Check.due("and the other one", low.path(1, 9), 247600);
        Check.due("mean beyond 100000", low.round(0, 1), 166218);
        Check.due("velocity beyond 100000", low.round(0, 0), 166218);
        Check.due("ratio of 2", low.path(2, 7), 601);
    }

    private static void meanOfZero() {
        TransitMeter x = Check.withPaths(1, 1);
        Check.aim(x, 0, 100000, 100000);
        Check.aim(x, 1, 100000, 100000);
        Check.due("close()", x.close(), 0);
        Check.due("no ratio with a mean of 0", x.path(0, 7), Check.NONE);
        Check.due("but a reference", x.path(0, 5), 100000);
        Check.due("no volume", x.volume(0) + x.volume(1), 0);
        Check.due("it is not lost", x.total(4), 0);
        Check.aim(x, 0, 100000, 100001);
        Check.aim(x, 1, 100000, 100000);
        // 9 and 0: mean 4, ratio 9000 / 4
        x.close();
        Check.due("a ratio", x.path(0, 7), 2250);
        Check.aim(x, 0, 100000, 100000);
        Check.aim(x, 1, 100000, 100000);
        x.close();
        Check.due("it stays with a mean of 0", x.path(0, 7), 2250);
        TransitMeter slow = Check.withPaths(1);
        slow.setPoint(0, 500);
        // 1e8 / 90000300 = 1, and 1 * 500 / 1000 = 0
        Check.aim(slow, 0, 300000, 300001);
        Check.due("close() with a mean of 1", slow.close(), 0);
        Check.due("the mean", slow.round(0, 1), 1);
        Check.due("a ratio by the mean, not by the velocity", slow.path(0, 7), 1000);
    }

    private static void profileAndVolume() {
        TransitMeter x = Check.withPaths(1);
        x.setPoint(9900, 900);
        x.setPoint(20000, 1500);
        x.set(3, 777);
        x.set(4, 33);
        Check.aim(x, 0, 100000, 101000);
        Check.due("close()", x.close(), 8910);
        Check.due("velocity", x.round(0, 0), 8910);
        Check.due("mean", x.round(0, 1), 9900);
        // 8910 * 777 * 33 / 1000 = 228461.31
        Check.due("forward volume", x.volume(0), 228461);
        Check.due("ratio by the mean", x.path(0, 7), 1000);
        Check.due("path velocity", x.path(0, 9), 9900);
        Check.aim(x, 0, 101000, 100000);
        Check.due("close(), backward", x.close(), -8910);
        Check.due("backward volume", x.volume(1), 228461);
        Check.due("forward volume stays", x.volume(0), 228461);
        Check.due("both", x.volume(2), 0);
        x.undo();
        Check.due("undone backward volume", x.volume(1), 0);
        Check.due("close() again", x.close(), -8910);
        Check.due("backward volume again", x.volume(1), 228461);
        x.removePoint(9900);
        x.removePoint(20000);
        x.setPoint(0, 999);
        Check.aim(x, 0, 101000, 100000);
        // -9900 * 999 / 1000 = -9890.1
        Check.due("rounded towards zero", x.close(), -9890);
    }

    private static void volumeRounding() {
        TransitMeter x = Check.withPaths(1);
        x.set(3, 1);
        x.set(4, 1);
        Check.aim(x, 0, 100000, 100100);
        Check.due("close()", x.close(), 999);
        Check.due("999 / 1000 is no volume", x.volume(0), 0);
        Check.aim(x, 0, 100100, 100000);
        Check.due("close()", x.close(), -999);
        Check.due("-999 / 1000 is none either", x.volume(1), 0);
        Check.aim(x, 0, 100000, 100101);
        Check.due("close()", x.close(), 1008);
        Check.due("the least forward volume", x.volume(0), 1);
        Check.due("no backward volume", x.volume(1), 0);
        Check.aim(x, 0, 100101, 100000);
        Check.due("close()", x.close(), -1008);
        Check.due("the least backward volume", x.volume(1), 1);
        x = Check.withPaths(1);
        x.set(3, 1000000);
        x.set(4, 1000);
        x.setPoint(0, 1500);
        Check.aim(x, 0, 1000, 9999999);
        Check.due("close()", x.close(), 150000);
        Check.due("a great volume", x.volume(0), 150000000000L);
        x.forget(0);
        Check.aim(x, 0, 9999999, 1000);
        Check.due("close()", x.close(), -150000);
        Check.due("a great volume", x.volume(1), 150000000000L);
    }

    private static void keepsTwelve() {
        TransitMeter x = Check.withPaths(1);
        for (int i = 0; i < 14; i++) {
            Check.aim(x, 0, 100000 + i * 10, 101000);
            x.close();
            Check.due("kept", x.total(5), Math.min(i + 1, 12));
            Check.due("closed", x.total(3), i + 1);
        }
        for (int back = 0; back < 12; back++) {
            int f = 100000 + (13 - back) * 10;
            long due = 100000000L * (101000 - f) / ((long) f * 101000 / 1000);
            Check.due("round(" + back + ", 0)", x.round(back, 0), due);
        }
        Check.due("round(12, 0)", x.round(12, 0), Check.BAD_INDEX);
        Check.due("statistics are of twelve", x.statistic(0), 12);
    }

    private static void failing() {
        TransitMeter x = Check.withPaths(1, 1);
        for (int i = 1; i <= 4; i++) {
            Check.aim(x, 1, 100000, 101000);
            x.close();
            Check.due("not accepted so long", x.path(0, 10), i);
            Check.due("fails after " + i, x.path(0, 13), i >= 3 ? 1 : 0);
            Check.due("failing paths", x.total(7), i >= 3 ? 1 : 0);
            Check.due("the other one", x.path(1, 10) + x.path(1, 13), 0);
        }
        x.addPath(100, 50, 1, 1000, 0);
        x.close();
        x.close();
        Check.due("since it was added", x.path(2, 10), 2);
        Check.due("it does not fail yet", x.path(2, 13), 0);
        x.close();
        Check.due("all fail", x.total(7), 3);
        Check.aim(x, 0, 100000, 101000);
        Check.due("a shot alone does not help", x.path(0, 13), 1);
        x.close();
        Check.due("accepted again", x.path(0, 13), 0);
        Check.due("from 0 again", x.path(0, 10), 0);
        Check.due("two fail", x.total(7), 2);
        x.undo();
        Check.due("undone", x.path(0, 10), 7);
    }
}
