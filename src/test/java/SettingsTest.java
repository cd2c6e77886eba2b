/** Promises 1 to 6: a new object, addPath, setWeight, setPoint, removePoint, set. */
public final class SettingsTest {
    public static void main(String[] args) {
        newObject();
        newObjectWithoutPaths();
        newObjectsAreApart();
        addPathOrdinary();
        addPathRanges();
        axialUpToTheLength();
        addPathFull();
        fullAgainAfterUndo();
        addedAgainIsNew();
        addedWhileSwapped();
        setWeight();
        weightsAtTheirBounds();
        setPoint();
        pointsAtTheirBounds();
        oneOfEachVelocity();
        setPointFull();
        roomAgainAfterRemoving();
        removePoint();
        removeFromAnEmptyTable();
        removeEachOfSix();
        setOrdinary();
        setRanges();
        eachValueAtItsBounds();
        leastQualityAtItsBounds();
        errorsAreNotRecorded();
        Check.finish();
    }

    private static void newObject() {
        TransitMeter x = new TransitMeter();
        int[] totals = {0, 0, 0, 0, 0, 0, 0, 0, 0, 0, 40, 2, 60, 10000, 100};
        for (int property = 0; property < totals.length; property++) {
            Check.due("new: total(" + property + ")", x.total(property), totals[property]);
        }
        for (int which = 0; which <= 2; which++) {
            Check.due("new: volume(" + which + ")", x.volume(which), 0);
        }
        Check.due("new: round(0, 0)", x.round(0, 0), Check.BAD_INDEX);
        Check.due("new: path(0, 0)", x.path(0, 0), Check.BAD_INDEX);
        Check.due("new: factor(50)", x.factor(50), 1000);
        Check.due("new: undo()", x.undo(), Check.NOT_POSSIBLE);
        Check.due("new: restore(0)", x.restore(0), Check.NOT_POSSIBLE);
        Check.due("new: restore(1)", x.restore(1), Check.NOT_POSSIBLE);
        Check.due("new: faultPosition()", x.faultPosition(), Check.NONE);
        Check.due("new: clearText()", x.clearText(), 0);
        Check.due("new: statistic(0)", x.statistic(0), 0);
        Check.due("new: trust(0)", x.trust(0), Check.NONE);
    }

    /** What needs a path, a point, a round or a text finds none. */
    private static void newObjectWithoutPaths() {
        TransitMeter x = new TransitMeter();
        for (int path = 0; path < 4; path++) {
            Check.due("new: setWeight", x.setWeight(path, 5), Check.BAD_INDEX);
            Check.due("new: shot", x.shot(path, 5000, 5000, 50), Check.BAD_INDEX);
            Check.due("new: forget", x.forget(path), Check.BAD_INDEX);
            Check.due("new: told", x.told(path, 0), Check.BAD_INDEX);
            Check.due("new: sound", x.sound(path), Check.BAD_INDEX);
            Check.due("new: velocity", x.velocity(path, 5000, 5000), Check.BAD_INDEX);
            Check.due("new: ideal", x.ideal(path, 1500, 0, false), Check.BAD_INDEX);
            Check.due("new: wouldBecome", x.wouldBecome(path), Check.BAD_INDEX);
        }
        Check.due("new: close()", x.close(), Check.NOT_POSSIBLE);
        Check.due("new: wouldBe()", x.wouldBe(), Check.NOT_POSSIBLE);
        Check.due("new: removePoint(0)", x.removePoint(0), Check.NOT_POSSIBLE);
        for (int which = 1; which <= 4; which++) {
            Check.due("new: statistic(" + which + ")", x.statistic(which), Check.NONE);
        }
        Check.due("new: run()", x.run(), 0);
        Check.due("new: swap()", x.swap(), 1);
        Check.due("new: addPath", x.addPath(100, 50, 1, 1000, 0), 0);
    }

    private static void newObjectsAreApart() {
        TransitMeter x = Check.withReferences(1, 2);
        x.setPoint(5, 900);
        x.set(0, 7);
        x.save(0);
        Check.type(x, "c;");
        TransitMeter y = new TransitMeter();
        Check.holds("a later one is new", Check.seen(new TransitMeter()).equals(Check.seen(y)));
        int[] totals = {0, 0, 0, 0, 0, 0, 0, 0, 0, 0, 40, 2, 60, 10000, 100};
        for (int property = 0; property < totals.length; property++) {
            Check.due("a later one: total(" + property + ")", y.total(property), totals[property]);
        }
        Check.due("a later one: restore(0)", y.restore(0), Check.NOT_POSSIBLE);
        y.addPath(60, 30, 9, 500, 7);
        Check.due("the earlier one stays", x.path(0, 2), 1);
    }

    private static void addPathOrdinary() {
        TransitMeter x = new TransitMeter();
        Check.due("addPath, the first", x.addPath(200, 100, 3, 1000, 50), 0);
        Check.due("addPath, the second", x.addPath(300, 150, 4, 2000, 60), 1);
        int[] due = {200, 100, 3, 1000, 50, Check.NONE, Check.NONE, Check.NONE, Check.NONE, Check.NONE, 0, 0, 0, 0};
        for (int property = 0; property < due.length; property++) {
            Check.due("added: path(0, " + property + ")", x.path(0, property), due[property]);
        }
        Check.due("added: path(1, 0)", x.path(1, 0), 300);
        Check.due("added: path(1, 4)", x.path(1, 4), 60);
        Check.due("addPath is recorded", x.total(8), 2);
        Check.due("undo of addPath", x.undo(), 1);
        Check.due("undone addPath", x.total(0), 1);
    }

    private static void addPathRanges() {
        int[] low = {50, 10, 1, 100, 0};
        int[] high = {2000, 2000, 1000, 10000, 5000};
        Check.due("addPath, all least", new TransitMeter().addPath(50, 10, 1, 100, 0), 0);
        Check.due("addPath, all greatest", new TransitMeter().addPath(2000, 2000, 1000, 10000, 5000), 0);
        Check.due("addPath, axial above length", new TransitMeter().addPath(100, 101, 1, 100, 0), Check.BAD_VALUE);
        Check.due("addPath, axial as length", new TransitMeter().addPath(100, 100, 1, 100, 0), 0);
        Check.due("addPath, length 49", new TransitMeter().addPath(49, 10, 1, 100, 0), Check.BAD_VALUE);
        for (int argument = 0; argument < low.length; argument++) {
            int[] wrong = {low[argument] - 1, high[argument] + 1, Integer.MIN_VALUE, Integer.MAX_VALUE};
            for (int value : wrong) {
                int[] a = {2000, 1000, 500, 5000, 500};
                a[argument] = value;
                TransitMeter x = new TransitMeter();
                Check.due("addPath, argument " + argument + " as " + value,
                        x.addPath(a[0], a[1], a[2], a[3], a[4]), Check.BAD_VALUE);
                Check.due("addPath with an error changes nothing", x.total(0) + x.total(8), 0);
            }
            for (int value : new int[] {Math.max(low[argument], argument == 0 ? 1000 : 0), high[argument]}) {
                int[] a = {2000, 1000, 500, 5000, 500};
                a[argument] = value;
                Check.due("addPath, argument " + argument + " as " + value,
                        new TransitMeter().addPath(a[0], a[1], a[2], a[3], a[4]), 0);
            }
        }
    }

    private static void axialUpToTheLength() {
        for (int length : new int[] {50, 51, 100, 1999, 2000}) {
            TransitMeter x = new TransitMeter();
            Check.due("addPath, axial above " + length, x.addPath(length, length + 1, 1, 100, 0), Check.BAD_VALUE);
            Check.due("addPath, axial 9 of " + length, x.addPath(length, 9, 1, 100, 0), Check.BAD_VALUE);
            Check.due("addPath, axial 10 of " + length, x.addPath(length, 10, 1, 100, 0), 0);
            Check.due("addPath, axial as " + length, x.addPath(length, length, 1, 100, 0), 1);
            Check.due("its axial length", x.path(1, 1), length);
        }
    }

    private static void addPathFull() {
        TransitMeter x = Check.withPaths(1, 2, 3, 4);
        Check.due("addPath, a fifth", x.addPath(200, 100, 3, 1000, 50), Check.FULL);
        Check.due("addPath, a wrong fifth", x.addPath(200, 100, 0, 1000, 50), Check.BAD_VALUE);
        Check.due("four paths", x.total(0), 4);
        Check.due("FULL is not recorded", x.total(8), 4);
        Check.due("the fourth stays", x.path(3, 2), 4);
    }

    private static void fullAgainAfterUndo() {
        TransitMeter x = Check.withPaths(1, 2, 3, 4);
        x.undo();
        Check.due("three are left", x.total(0), 3);
        Check.due("the fourth is gone", x.path(3, 0), Check.BAD_INDEX);
        Check.due("addPath, a fourth again", x.addPath(200, 100, 3, 1000, 50), 3);
        Check.due("addPath, a fifth", x.addPath(200, 100, 3, 1000, 50), Check.FULL);
    }

    /** A path that is added where an undone one was has nothing of it. */
    private static void addedAgainIsNew() {
        TransitMeter x = Check.withPaths(1, 1);
        Check.aim(x, 1, 100000, 101000);
        x.close();
        Check.aim(x, 1, 100000, 101000);
        for (int left = 4; left >= 1; left--) {
            Check.due("undo()", x.undo(), left);
        }
        Check.due("the second path is undone", x.total(0), 1);
        Check.due("addPath", x.addPath(60, 30, 9, 500, 7), 1);
        int[] due = {60, 30, 9, 500, 7, Check.NONE, Check.NONE, Check.NONE, Check.NONE, Check.NONE, 0, 0, 0, 0};
        for (int property = 0; property < due.length; property++) {
            Check.due("added again: path(1, " + property + ")", x.path(1, property), due[property]);
        }
        Check.due("added again: told", x.told(1, 0), Check.NONE);
        Check.due("added again: sound", x.sound(1), Check.NONE);
        Check.due("no shots", x.total(2), 0);
    }

    private static void addedWhileSwapped() {
        TransitMeter x = new TransitMeter();
        x.swap();
        Check.due("addPath", x.addPath(100, 50, 1, 1000, 0), 0);
        Check.due("no reference", x.path(0, 5), Check.NONE);
        x.shot(0, 100000, 101000, 50);
        Check.due("told as swapped", x.told(0, 0), 101000);
        Check.due("still swapped", x.total(6), 1);
    }

    private static void setWeight() {
        TransitMeter x = Check.withPaths(7, 8);
        Check.due("setWeight(1, 1000)", x.setWeight(1, 1000), 8);
        Check.due("setWeight(1, 1)", x.setWeight(1, 1), 1000);
        Check.due("setWeight(1, 1) again", x.setWeight(1, 1), 1);
        Check.due("the other weight stays", x.path(0, 2), 7);
        Check.due("the weight", x.path(1, 2), 1);
        Check.due("setWeight is recorded", x.total(8), 5);
        for (int wrong : new int[] {0, 1001, -1, Integer.MIN_VALUE, Integer.MAX_VALUE}) {
            Check.due("setWeight(0, " + wrong + ")", x.setWeight(0, wrong), Check.BAD_VALUE);
            Check.due("setWeight(2, " + wrong + ")", x.setWeight(2, wrong), Check.BAD_INDEX);
        }
        for (int path : new int[] {-1, 2, 4, Integer.MIN_VALUE, Integer.MAX_VALUE}) {
            Check.due("setWeight(" + path + ", 5)", x.setWeight(path, 5), Check.BAD_INDEX);
        }
        Check.due("the weight of 0 stays", x.path(0, 2), 7);
        x.undo();
        x.undo();
        Check.due("undone setWeight", x.path(1, 2), 1000);
    }

    private static void weightsAtTheirBounds() {
        TransitMeter x = Check.withPaths(500);
        Check.due("setWeight(0, 0)", x.setWeight(0, 0), Check.BAD_VALUE);
        Check.due("setWeight(0, 1)", x.setWeight(0, 1), 500);
        Check.due("setWeight(0, 1000)", x.setWeight(0, 1000), 1);
        Check.due("setWeight(0, 1001)", x.setWeight(0, 1001), Check.BAD_VALUE);
        Check.due("the weight", x.path(0, 2), 1000);
        TransitMeter four = Check.withPaths(1, 1, 1, 1);
        Check.due("setWeight of the last of four", four.setWeight(3, 9), 1);
        Check.due("setWeight of one after it", four.setWeight(4, 9), Check.BAD_INDEX);
    }

    private static void setPoint() {
        TransitMeter x = new TransitMeter();
        Check.due("setPoint(100000, 1500)", x.setPoint(100000, 1500), 1);
        Check.due("setPoint(0, 500)", x.setPoint(0, 500), 2);
        Check.due("setPoint(500, 900)", x.setPoint(500, 900), 3);
        Check.due("setPoint(500, 901) in place", x.setPoint(500, 901), 3);
        Check.due("the new factor", x.factor(500), 901);
        Check.due("setPoint(0, 501) in place of the lowest", x.setPoint(0, 501), 3);
        Check.due("its new factor", x.factor(0), 501);
        x.undo();
        Check.due("setPoint is recorded", x.total(8), 4);
        Check.due("the points", x.total(1), 3);
        Check.due("setPoint(-1, 1000)", x.setPoint(-1, 1000), Check.BAD_VALUE);
        Check.due("setPoint(100001, 1000)", x.setPoint(100001, 1000), Check.BAD_VALUE);
        Check.due("setPoint(7, 499)", x.setPoint(7, 499), Check.BAD_VALUE);
        Check.due("setPoint(7, 1501)", x.setPoint(7, 1501), Check.BAD_VALUE);
        Check.due("setPoint(MIN, MAX)", x.setPoint(Integer.MIN_VALUE, Integer.MAX_VALUE), Check.BAD_VALUE);
        Check.due("errors of setPoint are not recorded", x.total(8), 4);
        Check.due("undo of setPoint", x.undo(), 3);
        Check.due("the factor before", x.factor(500), 900);
    }

    private static void pointsAtTheirBounds() {
        int[][] due = {{-1, 500, Check.BAD_VALUE}, {0, 500, 1}, {0, 499, Check.BAD_VALUE}, {100000, 1500, 2},
            {100000, 1501, Check.BAD_VALUE}, {100001, 1500, Check.BAD_VALUE}, {0, 1500, 2}, {100000, 500, 2}};
        TransitMeter x = new TransitMeter();
        for (int[] each : due) {
            Check.due("setPoint(" + each[0] + ", " + each[1] + ")", x.setPoint(each[0], each[1]), each[2]);
        }
        Check.due("factor(0)", x.factor(0), 1500);
        Check.due("factor(100000)", x.factor(100000), 500);
    }

    private static void oneOfEachVelocity() {
        TransitMeter x = new TransitMeter();
        for (int velocity : new int[] {300, 100, 200}) {
            x.setPoint(velocity, 1000);
        }
        for (int velocity : new int[] {100, 200, 300}) {
            Check.due("setPoint in place of " + velocity, x.setPoint(velocity, 500 + velocity), 3);
            Check.due("total(1)", x.total(1), 3);
            Check.due("removePoint(" + velocity + ")", x.removePoint(velocity), 500 + velocity);
            Check.due("removePoint(" + velocity + ") once more", x.removePoint(velocity), Check.NOT_POSSIBLE);
            Check.due("setPoint anew", x.setPoint(velocity, 1000), 3);
        }
    }

    private static void setPointFull() {
        TransitMeter x = new TransitMeter();
        for (int i = 0; i < 6; i++) {
            Check.due("setPoint, point " + i, x.setPoint((6 - i) * 100, 1000 + i), i + 1);
        }
        Check.due("setPoint, a seventh", x.setPoint(50, 1000), Check.FULL);
        Check.due("setPoint, a wrong seventh", x.setPoint(50, 1501), Check.BAD_VALUE);
        Check.due("setPoint, in place of one of six", x.setPoint(300, 777), 6);
        Check.due("its factor", x.factor(300), 777);
        for (int velocity : new int[] {100, 600}) {
            int factor = x.factor(velocity);
            Check.due("setPoint, in place of an outer one", x.setPoint(velocity, 555), 6);
            Check.due("its factor", x.factor(velocity), 555);
            Check.due("setPoint, in place of it again", x.setPoint(velocity, factor), 6);
        }
        for (int i = 0; i < 6; i++) {
            int velocity = (6 - i) * 100;
            Check.due("factor(" + velocity + ")", x.factor(velocity), velocity == 300 ? 777 : 1000 + i);
        }
    }

    private static void roomAgainAfterRemoving() {
        for (int gone = 0; gone < 6; gone++) {
            TransitMeter x = new TransitMeter();
            for (int i = 0; i < 6; i++) {
                x.setPoint(i * 100, 900 + i);
            }
            Check.due("a seventh", x.setPoint(150, 1000), Check.FULL);
            Check.due("removePoint", x.removePoint(gone * 100), 900 + gone);
            Check.due("one in its place", x.setPoint(150, 1000), 6);
            Check.due("a seventh", x.setPoint(gone * 100, 1000), Check.FULL);
            Check.due("its factor", x.factor(150), 1000);
        }
    }

    private static void removePoint() {
        TransitMeter x = new TransitMeter();
        x.setPoint(0, 600);
        x.setPoint(1000, 700);
        x.setPoint(100000, 800);
        Check.due("removePoint(-1)", x.removePoint(-1), Check.BAD_VALUE);
        Check.due("removePoint(100001)", x.removePoint(100001), Check.BAD_VALUE);
        Check.due("removePoint(MIN)", x.removePoint(Integer.MIN_VALUE), Check.BAD_VALUE);
        Check.due("removePoint(999)", x.removePoint(999), Check.NOT_POSSIBLE);
        Check.due("errors of removePoint are not recorded", x.total(8), 3);
        Check.due("removePoint(1000)", x.removePoint(1000), 700);
        Check.due("removePoint is recorded", x.total(8), 4);
        Check.due("removePoint(1000) again", x.removePoint(1000), Check.NOT_POSSIBLE);
        Check.due("two points are left", x.total(1), 2);
        Check.due("between both that are left", x.factor(50000), 700);
        Check.due("removePoint(0)", x.removePoint(0), 600);
        Check.due("below the only one", x.factor(0), 800);
        Check.due("removePoint(100000)", x.removePoint(100000), 800);
        Check.due("without points", x.factor(0), 1000);
        Check.due("no point is left", x.total(1), 0);
        x.undo();
        Check.due("undone removePoint", x.factor(7), 800);
    }

    private static void removeFromAnEmptyTable() {
        TransitMeter x = new TransitMeter();
        for (int velocity : new int[] {0, 1, 99999, 100000}) {
            Check.due("removePoint(" + velocity + ") of none", x.removePoint(velocity), Check.NOT_POSSIBLE);
        }
        Check.due("removePoint(-1) of none", x.removePoint(-1), Check.BAD_VALUE);
        Check.due("removePoint(100001) of none", x.removePoint(100001), Check.BAD_VALUE);
        Check.due("nothing is recorded", x.total(8), 0);
        Check.due("total(1)", x.total(1), 0);
    }

    private static void removeEachOfSix() {
        for (int gone = 0; gone < 6; gone++) {
            TransitMeter x = new TransitMeter();
            for (int i = 0; i < 6; i++) {
                x.setPoint((i * 5 + 2) % 6 * 100, 900 + (i * 5 + 2) % 6);
            }
            Check.due("removePoint", x.removePoint(gone * 100), 900 + gone);
            Check.due("five are left", x.total(1), 5);
            for (int i = 0; i < 6; i++) {
                int between = gone == 0 ? 901 : gone == 5 ? 904 : 900 + gone;
                Check.due("factor(" + i * 100 + ") without " + gone, x.factor(i * 100), i == gone ? between : 900 + i);
            }
        }
    }

    private static void setOrdinary() {
        TransitMeter x = new TransitMeter();
        int[] first = {40, 2, 60, 10000, 100};
        int[] next = {41, 3, 61, 10001, 101};
        for (int setting = 0; setting < 5; setting++) {
            Check.due("set(" + setting + ", " + next[setting] + ")", x.set(setting, next[setting]), first[setting]);
        }
        for (int setting = 0; setting < 5; setting++) {
            Check.due("total(" + (10 + setting) + ")", x.total(10 + setting), next[setting]);
        }
        Check.due("set is recorded", x.total(8), 5);
        x.undo();
        Check.due("undone set", x.total(14), 100);
        Check.due("not undone set", x.total(13), 10001);
    }

    private static void setRanges() {
        int[] low = {0, 0, 1, 1, 1};
        int[] high = {100, 5, 100, 1000000, 1000};
        for (int setting = 0; setting < 5; setting++) {
            TransitMeter x = new TransitMeter();
            x.set(setting, low[setting]);
            Check.due("set(" + setting + ", high)", x.set(setting, high[setting]), low[setting]);
            for (int wrong : new int[] {low[setting] - 1, high[setting] + 1, Integer.MIN_VALUE, Integer.MAX_VALUE}) {
                Check.due("set(" + setting + ", " + wrong + ")", x.set(setting, wrong), Check.BAD_VALUE);
            }
            Check.due("the value stays", x.total(10 + setting), high[setting]);
            Check.due("errors of set are not recorded", x.total(8), 2);
        }
        for (int setting : new int[] {-1, 5, Integer.MIN_VALUE, Integer.MAX_VALUE}) {
            Check.due("set(" + setting + ", 1)", new TransitMeter().set(setting, 1), Check.BAD_INDEX);
            Check.due("set(" + setting + ", -1)", new TransitMeter().set(setting, -1), Check.BAD_INDEX);
        }
    }

    private static void eachValueAtItsBounds() {
        int[] low = {0, 0, 1, 1, 1};
        int[] high = {100, 5, 100, 1000000, 1000};
        int[] first = {40, 2, 60, 10000, 100};
        for (int setting = 0; setting < 5; setting++) {
            TransitMeter x = new TransitMeter();
            String of = "set(" + setting + ", ";
            Check.due(of + "one too small)", x.set(setting, low[setting] - 1), Check.BAD_VALUE);
            Check.due(of + "the least)", x.set(setting, low[setting]), first[setting]);
            Check.due(of + "the greatest)", x.set(setting, high[setting]), low[setting]);
            Check.due(of + "one too large)", x.set(setting, high[setting] + 1), Check.BAD_VALUE);
            for (int other = 0; other < 5; other++) {
                int due = other == setting ? high[setting] : first[other];
                Check.due("total(" + (10 + other) + ")", x.total(10 + other), due);
            }
        }
    }

    /** With 0 no shot is weak, with 100 each one is that has less. */
    private static void leastQualityAtItsBounds() {
        TransitMeter x = Check.withPaths(1, 1);
        x.set(0, 0);
        x.shot(0, 5000, 5000, 0);
        Check.due("0 of 0", x.wouldBecome(0), TransitMeter.GOOD);
        x.set(0, 1);
        Check.due("0 of 1", x.wouldBecome(0), TransitMeter.WEAK);
        x.set(0, 100);
        x.shot(0, 5000, 5000, 99);
        x.shot(1, 5000, 5000, 100);
        Check.due("99 of 100", x.wouldBecome(0), TransitMeter.WEAK);
        Check.due("100 of 100", x.wouldBecome(1), TransitMeter.GOOD);
    }

    private static void errorsAreNotRecorded() {
        TransitMeter x = Check.withPaths(5);
        String before = Check.seen(x);
        x.addPath(1, 1, 1, 1, 1);
        x.setWeight(0, 0);
        x.setWeight(1, 1);
        x.setPoint(-1, 1000);
        x.removePoint(5);
        x.set(9, 9);
        x.set(0, 101);
        Check.due("no error is recorded", x.total(8), 1);
        Check.holds("no error changes anything", before.equals(Check.seen(x)));
    }
}
