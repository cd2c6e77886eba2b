/** Promises 7, 9 and 10: shot, swap, forget. */
public final class MeasuringTest {
    public static void main(String[] args) {
        shotOrdinary();
        shotRanges();
        shotAndDelay();
        swapped();
        swapsWhatIsKept();
        forget();
        Check.finish();
    }

    private static void shotOrdinary() {
        TransitMeter x = Check.withPaths(1, 1, 1);
        Check.due("shot of 2", x.shot(2, 5000, 6000, 70), 1);
        Check.due("shot of 0", x.shot(0, 7000, 8000, 80), 2);
        Check.due("shot of 0 in place", x.shot(0, 7001, 8001, 81), 2);
        Check.due("told(0, 0)", x.told(0, 0), 7001);
        Check.due("told(0, 1)", x.told(0, 1), 8001);
        Check.due("told(0, 2)", x.told(0, 2), 81);
        Check.due("told(2, 0)", x.told(2, 0), 5000);
        Check.due("told(1, 0)", x.told(1, 0), Check.NONE);
        Check.due("total(2)", x.total(2), 2);
        Check.due("history is full", x.total(8), 5);
        x.undo();
        Check.due("undone shot in place", x.told(0, 2), 80);
        x.undo();
        Check.due("undone shot", x.told(0, 2), Check.NONE);
        Check.due("one shot is left", x.total(2), 1);
    }

    private static void shotRanges() {
        TransitMeter x = Check.withPaths(1, 1);
        Check.due("the least", x.shot(0, 1000, 1000, 0), 1);
        Check.due("the greatest", x.shot(1, 9999999, 9999999, 100), 2);
        int recorded = x.total(8);
        int[] wrongTimes = {999, 10000000, 0, -1, Integer.MIN_VALUE, Integer.MAX_VALUE};
        for (int wrong : wrongTimes) {
            Check.due("shot, forward " + wrong, x.shot(0, wrong, 5000, 50), Check.BAD_VALUE);
            Check.due("shot, backward " + wrong, x.shot(0, 5000, wrong, 50), Check.BAD_VALUE);
        }
        for (int wrong : new int[] {-1, 101, Integer.MIN_VALUE, Integer.MAX_VALUE}) {
            Check.due("shot, quality " + wrong, x.shot(0, 5000, 5000, wrong), Check.BAD_VALUE);
        }
        for (int path : new int[] {-1, 2, 4, Integer.MIN_VALUE, Integer.MAX_VALUE}) {
            Check.due("shot of path " + path, x.shot(path, 5000, 5000, 50), Check.BAD_INDEX);
            Check.due("shot of path " + path + ", all wrong", x.shot(path, 0, 0, -1), Check.BAD_INDEX);
        }
        Check.due("errors are not recorded", x.total(8), recorded);
        Check.due("the shot stays", x.told(0, 0), 1000);
    }

    private static void shotAndDelay() {
        TransitMeter x = new TransitMeter();
        x.addPath(100, 50, 1, 1000, 5000);
        Check.due("forward 5999", x.shot(0, 5999, 6000, 50), Check.BAD_VALUE);
        Check.due("backward 5999", x.shot(0, 6000, 5999, 50), Check.BAD_VALUE);
        Check.due("both 6000", x.shot(0, 6000, 6000, 50), 1);
        x.swap();
        Check.due("swapped, forward 5999", x.shot(0, 5999, 6000, 50), Check.BAD_VALUE);
        Check.due("swapped, backward 5999", x.shot(0, 6000, 5999, 50), Check.BAD_VALUE);
    }

    private static void swapped() {
        TransitMeter x = Check.withPaths(1);
        Check.due("swap()", x.swap(), 1);
        Check.due("total(6)", x.total(6), 1);
        x.shot(0, 100000, 101000, 50);
        Check.due("taken forward", x.told(0, 0), 101000);
        Check.due("taken backward", x.told(0, 1), 100000);
        Check.due("quality as told", x.told(0, 2), 50);
        // 1e8 * -1000 / (1e10 + 1e8 .. / 1000 = 10100000) = -9900.99
        Check.due("close() while swapped", x.close(), -9900);
        Check.due("swap() back", x.swap(), 0);
        Check.due("total(6)", x.total(6), 0);
        x.shot(0, 100000, 101000, 50);
        Check.due("taken as told", x.told(0, 0), 100000);
        Check.due("close() while not swapped", x.close(), 9900);
        Check.due("swap is recorded", x.total(8), 5);
    }

    private static void swapsWhatIsKept() {
        TransitMeter x = Check.withPaths(1, 1, 1);
        Check.aim(x, 0, 100000, 101000);
        Check.aim(x, 1, 102000, 103000);
        x.close();
        Check.aim(x, 0, 100005, 101006);
        int ratio = x.path(1, 7);
        x.swap();
        Check.due("reference forward of 0", x.path(0, 5), 101000);
        Check.due("reference backward of 0", x.path(0, 6), 100000);
        Check.due("reference forward of 1", x.path(1, 5), 103000);
        Check.due("reference backward of 1", x.path(1, 6), 102000);
        Check.due("no reference of 2", x.path(2, 5), Check.NONE);
        Check.due("told forward", x.told(0, 0), 101006);
        Check.due("told backward", x.told(0, 1), 100005);
        Check.due("no shot of 1", x.told(1, 0), Check.NONE);
        Check.due("the ratio stays", x.path(1, 7), ratio);
        Check.due("no shift arises", x.wouldBecome(0), TransitMeter.GOOD);
        x.swap();
        Check.due("swapped back, reference", x.path(0, 5), 100000);
        Check.due("swapped back, told", x.told(0, 0), 100005);
        x.undo();
        Check.due("undone swap back", x.total(6), 1);
        Check.due("undone swap back, told", x.told(0, 0), 101006);
    }

    private static void forget() {
        TransitMeter x = Check.withPaths(1, 1);
        Check.due("forget(0) without", x.forget(0), 0);
        Check.due("forget is recorded", x.total(8), 3);
        Check.aim(x, 0, 100000, 101000);
        Check.aim(x, 1, 100000, 101000);
        x.close();
        Check.aim(x, 0, 100100, 101100);
        Check.due("forget(0)", x.forget(0), 1);
        Check.due("no reference forward", x.path(0, 5), Check.NONE);
        Check.due("no reference backward", x.path(0, 6), Check.NONE);
        Check.due("no ratio", x.path(0, 7), Check.NONE);
        Check.due("no speed of sound", x.sound(0), Check.NONE);
        Check.due("the other's reference stays", x.path(1, 5), 100000);
        Check.due("the other's ratio stays", x.path(1, 7), 1000);
        Check.due("the outcome stays", x.path(0, 8), TransitMeter.GOOD);
        Check.due("the velocity stays", x.path(0, 9), 9900);
        Check.due("the shot stays", x.told(0, 0), 100100);
        Check.due("forget(0) again", x.forget(0), 0);
        for (int path : new int[] {-1, 2, 4, Integer.MIN_VALUE, Integer.MAX_VALUE}) {
            Check.due("forget(" + path + ")", x.forget(path), Check.BAD_INDEX);
        }
        x.undo();
        x.undo();
        Check.due("undone forget", x.path(0, 5), 100000);
        Check.due("undone forget, ratio", x.path(0, 7), 1000);
    }
}
