/** Promises 15 to 17: undo, save, restore. */
public final class HistoryTest {
    public static void main(String[] args) {
        undo();
        undoDropsTheOldest();
        undoOfEachCall();
        notRecorded();
        save();
        restore();
        slotsAreCopies();
        slotsOutliveUndo();
        Check.finish();
    }

    private static void undo() {
        TransitMeter x = new TransitMeter();
        Check.due("undo() of none", x.undo(), Check.NOT_POSSIBLE);
        x.addPath(100, 50, 1, 1000, 0);
        x.setWeight(0, 2);
        x.setWeight(0, 2);
        Check.due("also without a difference", x.total(8), 3);
        Check.due("undo()", x.undo(), 2);
        Check.due("the weight", x.path(0, 2), 2);
        Check.due("undo()", x.undo(), 1);
        Check.due("the weight", x.path(0, 2), 1);
        Check.due("undo()", x.undo(), 0);
        Check.due("no path", x.total(0), 0);
        Check.due("undo() of none", x.undo(), Check.NOT_POSSIBLE);
        Check.due("total(8)", x.total(8), 0);
        Check.due("added again it is new", x.addPath(60, 30, 9, 500, 7), 0);
        Check.due("its weight", x.path(0, 2), 9);
    }

    private static void undoDropsTheOldest() {
        TransitMeter x = Check.withPaths(1);
        for (int weight = 2; weight <= 9; weight++) {
            x.setWeight(0, weight);
            Check.due("states", x.total(8), Math.min(weight, 5));
        }
        for (int left = 4; left >= 0; left--) {
            Check.due("undo()", x.undo(), left);
            Check.due("the weight", x.path(0, 2), 4 + left);
        }
        Check.due("no more", x.undo(), Check.NOT_POSSIBLE);
        Check.due("the weight stays", x.path(0, 2), 4);
        x.setWeight(0, 50);
        x.setWeight(0, 51);
        Check.due("undo()", x.undo(), 1);
        Check.due("the weight", x.path(0, 2), 50);
    }

    /** A meter with all that a state can hold. */
    private static TransitMeter rich() {
        TransitMeter x = Check.withPaths(1, 2, 3);
        x.setPoint(5000, 900);
        x.setPoint(100, 1100);
        x.set(1, 1);
        for (int i = 0; i < 13; i++) {
            Check.aim(x, 0, 100000 + i, 101000);
            Check.aim(x, 1, 100000, 100500 + i);
            if (i < 9) {
                Check.aim(x, 2, 100000 + i % 2 * 1000, 100700);
            }
            x.close();
        }
        x.set(2, 100);
        Check.aim(x, 0, 109000, 101000);
        Check.aim(x, 1, 101000, 100512);
        Check.aim(x, 2, 100000, 100700);
        Check.due("to be an outlier", x.wouldBecome(0), TransitMeter.OUTLIER);
        Check.due("to be corrected", x.wouldBecome(1), TransitMeter.CORRECTED);
        return x;
    }

    private static int change(TransitMeter x, int call) {
        switch (call) {
            case 0: return x.addPath(70, 60, 5, 400, 3);
            case 1: return x.setWeight(1, 77);
            case 2: return x.setPoint(5000, 1300);
            case 3: return x.removePoint(100);
            case 4: return x.set(0, 10);
            case 5: return x.shot(2, 100000, 100600, 88);
            case 6: return x.close();
            case 7: return x.swap();
            case 8: return x.forget(1);
            default: return x.restore(1);
        }
    }

    private static void undoOfEachCall() {
        for (int call = 0; call <= 9; call++) {
            TransitMeter x = rich();
            x.save(1);
            x.addPath(300, 200, 4, 300, 20);
            x.removePoint(5000);
            x.setPoint(5000, 900);
            x.undo();
            x.undo();
            x.undo();
            if (call == 9) {
                x.close();
            }
            String before = Check.seen(x);
            int states = x.total(8);
            Check.holds("change " + call + " is no error", change(x, call) > -1000000);
            Check.holds("change " + call + " can be seen", !before.equals(Check.seen(x)));
            Check.due("change " + call + " is recorded", x.total(8), Math.min(5, states + 1));
            Check.due("undo of change " + call, x.undo(), Math.min(5, states + 1) - 1);
            Check.holds("all is as before change " + call, before.equals(Check.seen(x)));
        }
    }

    private static void notRecorded() {
        TransitMeter x = Check.withReferences(1, 2);
        int states = x.total(8);
        x.save(0);
        x.append('c');
        x.faultPosition();
        x.clearText();
        x.wouldBe();
        x.wouldBecome(0);
        x.skipsNeeded();
        x.velocity(0, 5000, 5000);
        x.ideal(0, 1500, 0, false);
        Check.seen(x);
        Check.due("none of these is recorded", x.total(8), states);
    }

    private static void save() {
        TransitMeter x = new TransitMeter();
        Check.due("save(0) of a new one", x.save(0), 0);
        for (int wrong : new int[] {-1, 2, Integer.MIN_VALUE, Integer.MAX_VALUE}) {
            Check.due("save(" + wrong + ")", x.save(wrong), Check.BAD_INDEX);
            Check.due("restore(" + wrong + ")", x.restore(wrong), Check.BAD_INDEX);
        }
        Check.due("restore(1) of an empty slot", x.restore(1), Check.NOT_POSSIBLE);
        Check.due("nothing is recorded", x.total(8), 0);
        x.addPath(100, 50, 1, 1000, 0);
        x.close();
        x.close();
        Check.due("save(1)", x.save(1), 2);
        x.close();
        Check.due("save(1) in place", x.save(1), 3);
        Check.due("restore(0)", x.restore(0), 0);
        Check.due("no path", x.total(0), 0);
        Check.due("restore(1)", x.restore(1), 3);
        Check.due("a path", x.total(0), 1);
    }

    private static void restore() {
        TransitMeter x = rich();
        String saved = Check.seen(x);
        Check.due("save(0)", x.save(0), 13);
        x.close();
        x.swap();
        x.removePoint(100);
        String changed = Check.seen(x);
        int states = x.total(8);
        Check.due("restore(0)", x.restore(0), 13);
        Check.holds("all is as saved", saved.equals(Check.seen(x)));
        Check.due("restore is recorded", x.total(8), Math.min(5, states + 1));
        Check.due("undo()", x.undo(), 4);
        Check.holds("the restore is undone", changed.equals(Check.seen(x)));
        Check.due("restore(0) once more", x.restore(0), 13);
        Check.holds("the slot still holds it", saved.equals(Check.seen(x)));
    }

    private static void slotsAreCopies() {
        TransitMeter x = rich();
        x.save(0);
        String saved = Check.seen(x);
        for (int call = 0; call < 9; call++) {
            change(x, call);
        }
        x.save(1);
        String other = Check.seen(x);
        x.restore(0);
        Check.holds("changes do not reach the slot", saved.equals(Check.seen(x)));
        for (int call = 0; call < 9; call++) {
            change(x, call);
        }
        x.restore(0);
        Check.holds("changes after restoring neither", saved.equals(Check.seen(x)));
        x.restore(1);
        Check.holds("the slots are apart", other.equals(Check.seen(x)));
    }

    private static void slotsOutliveUndo() {
        TransitMeter x = Check.withPaths(1);
        x.save(0);
        x.setWeight(0, 9);
        x.undo();
        x.undo();
        Check.due("no path", x.total(0), 0);
        Check.due("restore(0)", x.restore(0), 0);
        Check.due("the path of the slot", x.path(0, 2), 1);
        Check.due("the history stays with restore", x.total(8), 1);
    }
}
