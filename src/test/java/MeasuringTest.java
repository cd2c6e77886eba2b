/** Promises 7, 9 and 10: shot, swap, forget. */
public final class MeasuringTest {
    public static void main(String[] args) {
        shotOrdinary();
        shotInPlace();
        shotsOfAllPaths();
        shotRanges();
        shotAndDelay();
        eachDelay();
        goneAfterClosing();
        swapped();
        swapWithoutPaths();
        swapsWhatIsKept();
        swapsOneWithoutTheOther();
        swapsBackWhatWasTold();
        ratiosStayWhenSwapped();
        forget();
        forgetWithoutARatio();
        forgetAheadOfClosing();
        forgetNothingElse();
        Check.finish();
    }

    private static void shotOrdinary() {
        TransitMeter x = Check.withPaths(1, 1, 1);
        Check.due("shot of 2", x.shot(2, 5000, 6000, 70), 1);
        Check.due("shot of 0", x.shot(0, 7000, 8000, 80), 2);
        Check.due("shot of 0 in place", x.shot(0, 7001, 8001, 81), 2);
        Check.due("told(0, 0)", x.told(0, 0), 7001);
        Check.due("told(0, 1)", x.told(0, 1), 8001);
        Check.due("told(0, 2)", x.told(0, 2), 81);
        Check.due("told(2, 0)", x.told(2, 0), 5000);
        Check.due("told(1, 0)", x.told(1, 0), Check.NONE);
        Check.due("total(2)", x.total(2), 2);
        Check.due("history is full", x.total(8), 5);
        x.undo();
        Check.due("undone shot in place", x.told(0, 2), 80);
        x.undo();
        Check.due("undone shot", x.told(0, 2), Check.NONE);
        Check.due("one shot is left", x.total(2), 1);
    }

    private static void shotInPlace() {
        TransitMeter x = Check.withPaths(1);
        Check.due("the first", x.shot(0, 5000, 6000, 70), 1);
        Check.due("in place", x.shot(0, 7000, 8000, 20), 1);
        Check.due("told(0, 0)", x.told(0, 0), 7000);
        Check.due("told(0, 1)", x.told(0, 1), 8000);
        Check.due("told(0, 2)", x.told(0, 2), 20);
        Check.due("the latest counts", x.wouldBecome(0), TransitMeter.WEAK);
        Check.due("each is recorded", x.total(8), 3);
    }

    private static void shotsOfAllPaths() {
        TransitMeter x = Check.withPaths(1, 1, 1, 1);
        for (int path = 0; path < 4; path++) {
            Check.due("shot of " + path, x.shot(path, 5000 + path, 6000, 50), path + 1);
        }
        for (int path = 0; path < 4; path++) {
            Check.due("shot of " + path + " in place", x.shot(path, 5100 + path, 6000, 50), 4);
            Check.due("told of " + path, x.told(path, 0), 5100 + path);
        }
        Check.due("a fifth path", x.shot(4, 5000, 6000, 50), Check.BAD_INDEX);
    }

    private static void shotRanges() {
        TransitMeter x = Check.withPaths(1, 1);
        Check.due("the least", x.shot(0, 1000, 1000, 0), 1);
        Check.due("the greatest", x.shot(1, 9999999, 9999999, 100), 2);
        int recorded = x.total(8);
        int[] wrongTimes = {999, 10000000, 0, -1, Integer.MIN_VALUE, Integer.MAX_VALUE};
        for (int wrong : wrongTimes) {
            Check.due("shot, forward " + wrong, x.shot(0, wrong, 5000, 50), Check.BAD_VALUE);
            Check.due("shot, backward " + wrong, x.shot(0, 5000, wrong, 50), Check.BAD_VALUE);
        }
        for (int wrong : new int[] {-1, 101, Integer.MIN_VALUE, Integer.MAX_VALUE}) {
            Check.due("shot, quality " + wrong, x.shot(0, 5000, 5000, wrong), Check.BAD_VALUE);
        }
        for (int path : new int[] {-1, 2, 4, Integer.MIN_VALUE, Integer.MAX_VALUE}) {
            Check.due("shot of path " + path, x.shot(path, 5000, 5000, 50), Check.BAD_INDEX);
            Check.due("shot of path " + path + ", all wrong", x.shot(path, 0, 0, -1), Check.BAD_INDEX);
        }
        Check.due("errors are not recorded", x.total(8), recorded);
        Check.due("the shot stays", x.told(0, 0), 1000);
    }

    private static void shotAndDelay() {
        TransitMeter x = new TransitMeter();
        x.addPath(100, 50, 1, 1000, 5000);
        Check.due("forward 5999", x.shot(0, 5999, 6000, 50), Check.BAD_VALUE);
        Check.due("backward 5999", x.shot(0, 6000, 5999, 50), Check.BAD_VALUE);
        Check.due("both 6000", x.shot(0, 6000, 6000, 50), 1);
        x.swap();
        Check.due("swapped, forward 5999", x.shot(0, 5999, 6000, 50), Check.BAD_VALUE);
        Check.due("swapped, backward 5999", x.shot(0, 6000, 5999, 50), Check.BAD_VALUE);
    }

    private static void eachDelay() {
        for (int delay : new int[] {0, 1, 2, 999, 1000, 4999, 5000}) {
            TransitMeter x = new TransitMeter();
            x.addPath(100, 50, 1, 1000, delay);
            int least = 1000 + delay;
            Check.due("forward, delay " + delay, x.shot(0, least - 1, 9000, 50), Check.BAD_VALUE);
            Check.due("backward, delay " + delay, x.shot(0, 9000, least - 1, 50), Check.BAD_VALUE);
            Check.due("none is told", x.told(0, 0), Check.NONE);
            Check.due("the least of both, delay " + delay, x.shot(0, least, least, 50), 1);
            Check.due("velocity", x.close(), 0);
            Check.due("reference", x.path(0, 5), least);
        }
    }

    private static void goneAfterClosing() {
        TransitMeter x = Check.withPaths(1, 1);
        Check.aim(x, 0, 5000, 6000);
        x.shot(1, 5000, 6000, 3);
        x.close();
        Check.due("no shot of 0", x.told(0, 0), Check.NONE);
        Check.due("no shot of the weak one", x.told(1, 2), Check.NONE);
        Check.due("total(2)", x.total(2), 0);
        Check.due("the first of the next round", x.shot(1, 7000, 8000, 50), 1);
    }

    private static void swapped() {
        TransitMeter x = Check.withPaths(1);
        Check.due("swap()", x.swap(), 1);
        Check.due("total(6)", x.total(6), 1);
        x.shot(0, 100000, 101000, 50);
        Check.due("taken forward", x.told(0, 0), 101000);
        Check.due("taken backward", x.told(0, 1), 100000);
        Check.due("quality as told", x.told(0, 2), 50);
        // 1e8 * -1000 / (1e10 + 1e8 .. / 1000 = 10100000) = -9900.99
        Check.due("close() while swapped", x.close(), -9900);
        Check.due("swap() back", x.swap(), 0);
        Check.due("total(6)", x.total(6), 0);
        x.shot(0, 100000, 101000, 50);
        Check.due("taken as told", x.told(0, 0), 100000);
        Check.due("close() while not swapped", x.close(), 9900);
        Check.due("swap is recorded", x.total(8), 5);
    }

    private static void swapWithoutPaths() {
        TransitMeter x = new TransitMeter();
        Check.due("total(6)", x.total(6), 0);
        Check.due("swap()", x.swap(), 1);
        Check.due("swap() back", x.swap(), 0);
        Check.due("swap() again", x.swap(), 1);
        Check.due("each is recorded", x.total(8), 3);
        Check.due("undo()", x.undo(), 2);
        Check.due("total(6)", x.total(6), 0);
        Check.due("undo()", x.undo(), 1);
        Check.due("total(6)", x.total(6), 1);
    }

    private static void swapsWhatIsKept() {
        TransitMeter x = Check.withPaths(1, 1, 1);
        Check.aim(x, 0, 100000, 101000);
        Check.aim(x, 1, 102000, 103000);
        x.close();
        Check.aim(x, 0, 100005, 101006);
        int ratio = x.path(1, 7);
        x.swap();
        Check.due("reference forward of 0", x.path(0, 5), 101000);
        Check.due("reference backward of 0", x.path(0, 6), 100000);
        Check.due("reference forward of 1", x.path(1, 5), 103000);
        Check.due("reference backward of 1", x.path(1, 6), 102000);
        Check.due("no reference of 2", x.path(2, 5), Check.NONE);
        Check.due("told forward", x.told(0, 0), 101006);
        Check.due("told backward", x.told(0, 1), 100005);
        Check.due("no shot of 1", x.told(1, 0), Check.NONE);
        Check.due("the ratio stays", x.path(1, 7), ratio);
        Check.due("no shift arises", x.wouldBecome(0), TransitMeter.GOOD);
        x.swap();
        Check.due("swapped back, reference", x.path(0, 5), 100000);
        Check.due("swapped back, told", x.told(0, 0), 100005);
        x.undo();
        Check.due("undone swap back", x.total(6), 1);
        Check.due("undone swap back, told", x.told(0, 0), 101006);
    }

    /** A path with reference times but no shot, one with a shot but no reference times, and one with neither. */
    private static void swapsOneWithoutTheOther() {
        TransitMeter x = Check.withPaths(1, 1, 1);
        Check.aim(x, 0, 100000, 101000);
        x.close();
        Check.aim(x, 1, 102000, 103000);
        x.swap();
        Check.due("reference of 0", x.path(0, 5), 101000);
        Check.due("backward", x.path(0, 6), 100000);
        Check.due("no shot of 0", x.told(0, 0), Check.NONE);
        Check.due("no reference of 1", x.path(1, 5), Check.NONE);
        Check.due("shot of 1", x.told(1, 0), 103000);
        Check.due("backward", x.told(1, 1), 102000);
        Check.due("no reference of 2", x.path(2, 6), Check.NONE);
        Check.due("no shot of 2", x.told(2, 1), Check.NONE);
        Check.due("total(2)", x.total(2), 1);
    }

    private static void swapsBackWhatWasTold() {
        TransitMeter x = Check.withPaths(1);
        x.swap();
        Check.aim(x, 0, 100000, 101000);
        Check.due("told while swapped", x.told(0, 0), 101000);
        x.swap();
        Check.due("swapped back", x.told(0, 0), 100000);
        Check.due("backward", x.told(0, 1), 101000);
        Check.due("quality", x.told(0, 2), 90);
        Check.due("close()", x.close(), 9900);
        x.swap();
        Check.due("reference", x.path(0, 5), 101000);
        x.swap();
        Check.due("reference, swapped back", x.path(0, 5), 100000);
    }

    private static void ratiosStayWhenSwapped() {
        TransitMeter x = Check.withPaths(1, 1);
        Check.aim(x, 0, 100100, 100000);
        Check.aim(x, 1, 100000, 101000);
        x.close();
        for (int swaps = 1; swaps <= 2; swaps++) {
            x.swap();
            // -999 and 9900, the mean 4450
            Check.due("ratio of 0", x.path(0, 7), -224);
            Check.due("ratio of 1", x.path(1, 7), 2224);
            Check.due("velocity of 0 in the latest round", x.path(0, 9), -999);
            Check.due("velocity of that round", x.round(0, 0), 4450);
        }
    }

    private static void forget() {
        TransitMeter x = Check.withPaths(1, 1);
        Check.due("forget(0) without", x.forget(0), 0);
        Check.due("forget is recorded", x.total(8), 3);
        Check.aim(x, 0, 100000, 101000);
        Check.aim(x, 1, 100000, 101000);
        x.close();
        Check.aim(x, 0, 100100, 101100);
        Check.due("forget(0)", x.forget(0), 1);
        Check.due("no reference forward", x.path(0, 5), Check.NONE);
        Check.due("no reference backward", x.path(0, 6), Check.NONE);
        Check.due("no ratio", x.path(0, 7), Check.NONE);
        Check.due("no speed of sound", x.sound(0), Check.NONE);
        Check.due("the other's reference stays", x.path(1, 5), 100000);
        Check.due("the other's ratio stays", x.path(1, 7), 1000);
        Check.due("the outcome stays", x.path(0, 8), TransitMeter.GOOD);
        Check.due("the velocity stays", x.path(0, 9), 9900);
        Check.due("the shot stays", x.told(0, 0), 100100);
        Check.due("forget(0) again", x.forget(0), 0);
        for (int path : new int[] {-1, 2, 4, Integer.MIN_VALUE, Integer.MAX_VALUE}) {
            Check.due("forget(" + path + ")", x.forget(path), Check.BAD_INDEX);
        }
        x.undo();
        x.undo();
        Check.due("undone forget", x.path(0, 5), 100000);
        Check.due("undone forget, ratio", x.path(0, 7), 1000);
    }

    /** A mean of 0 gives reference times, but no ratio. */
    private static void forgetWithoutARatio() {
        TransitMeter x = Check.withReferences(1);
        Check.due("no ratio", x.path(0, 7), Check.NONE);
        Check.due("forget(0)", x.forget(0), 1);
        Check.due("forget(0) again", x.forget(0), 0);
        Check.due("no ratio", x.path(0, 7), Check.NONE);
    }

    /** Without reference times a path has no shift, and without a ratio it is not substituted. */
    private static void forgetAheadOfClosing() {
        TransitMeter x = Check.withPaths(1, 9);
        Check.aim(x, 0, 100000, 101000);
        Check.aim(x, 1, 100000, 101000);
        x.close();
        Check.aim(x, 0, 104000, 101000);
        Check.aim(x, 1, 100000, 101000);
        Check.due("an outlier", x.wouldBecome(0), TransitMeter.OUTLIER);
        x.forget(0);
        Check.due("good without reference times", x.wouldBecome(0), TransitMeter.GOOD);
        x.shot(0, 100000, 101000, 0);
        x.close();
        Check.due("not substituted", x.round(0, 4), 0);
        Check.due("no velocity", x.path(0, 9), Check.NONE);
        Check.due("no reference", x.path(0, 5), Check.NONE);
    }

    /** How a path fared so far, its shot and what it is made of stay. */
    private static void forgetNothingElse() {
        TransitMeter x = Check.withReferences(5, 90);
        for (int shift : new int[] {1, 2, 7, 8, 9}) {
            Check.aim(x, 0, 100000 + shift * 1000, 100000);
            Check.aim(x, 1, 100000, 100000);
            x.close();
        }
        x.shot(0, 100000, 100100, 77);
        int[] due = {100, 50, 5, 1000, 0, Check.NONE, Check.NONE, Check.NONE, TransitMeter.OUTLIER, Check.NONE, 3, 2, 3,
            1};
        Check.due("forget(0)", x.forget(0), 1);
        for (int property = 0; property < due.length; property++) {
            Check.due("forgotten: path(0, " + property + ")", x.path(0, property), due[property]);
        }
        Check.due("told(0, 0)", x.told(0, 0), 100000);
        Check.due("told(0, 1)", x.told(0, 1), 100100);
        Check.due("told(0, 2)", x.told(0, 2), 77);
        Check.due("rounds", x.total(5), 6);
        Check.due("one fails", x.total(7), 1);
    }
}
