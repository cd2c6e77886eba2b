/** Promises 15 to 17: undo, save, restore. */
public final class HistoryTest {
    public static void main(String[] args) {
        undo();
        undoDropsTheOldest();
        historyGoesRound();
        undoOfEachCall();
        fullHistoryOfEachCall();
        eachCallWithoutADifference();
        notRecorded();
        save();
        slotsAtTheirBounds();
        eachSlotEmptyAtFirst();
        emptySlotStaysEmpty();
        saveInPlace();
        restore();
        restoreAtAFullHistory();
        restoredHasNoOtherHistory();
        slotsAreCopies();
        slotsOutliveUndo();
        Check.finish();
    }

    private static void undo() {
        TransitMeter x = new TransitMeter();
        Check.due("undo() of none", x.undo(), Check.NOT_POSSIBLE);
        x.addPath(100, 50, 1, 1000, 0);
        x.setWeight(0, 2);
        x.setWeight(0, 2);
        Check.due("also without a difference", x.total(8), 3);
        Check.due("undo()", x.undo(), 2);
        Check.due("the weight", x.path(0, 2), 2);
        Check.due("undo()", x.undo(), 1);
        Check.due("the weight", x.path(0, 2), 1);
        Check.due("undo()", x.undo(), 0);
        Check.due("no path", x.total(0), 0);
        Check.due("undo() of none", x.undo(), Check.NOT_POSSIBLE);
        Check.due("total(8)", x.total(8), 0);
        Check.due("added again it is new", x.addPath(60, 30, 9, 500, 7), 0);
        Check.due("its weight", x.path(0, 2), 9);
    }

    private static void undoDropsTheOldest() {
        TransitMeter x = Check.withPaths(1);
        for (int weight = 2; weight <= 9; weight++) {
            x.setWeight(0, weight);
            Check.due("states", x.total(8), Math.min(weight, 5));
        }
        for (int left = 4; left >= 0; left--) {
            Check.due("undo()", x.undo(), left);
            Check.due("the weight", x.path(0, 2), 4 + left);
        }
        Check.due("no more", x.undo(), Check.NOT_POSSIBLE);
        Check.due("the weight stays", x.path(0, 2), 4);
        x.setWeight(0, 50);
        x.setWeight(0, 51);
        Check.due("undo()", x.undo(), 1);
        Check.due("the weight", x.path(0, 2), 50);
    }

    /** More states than are kept, again and again, with some of them undone between. */
    private static void historyGoesRound() {
        TransitMeter x = Check.withPaths(1);
        while (x.total(8) > 0) {
            x.undo();
        }
        x.addPath(100, 50, 1, 1000, 0);
        int weight = 1;
        for (int turn = 0; turn < 7; turn++) {
            for (int i = 0; i <= turn + 3; i++) {
                weight++;
                Check.due("setWeight", x.setWeight(0, weight), weight - 1);
            }
            Check.due("states", x.total(8), 5);
            for (int undone = 1; undone <= 3; undone++) {
                weight--;
                Check.due("undo(), turn " + turn, x.undo(), 5 - undone);
                Check.due("the weight, turn " + turn, x.path(0, 2), weight);
            }
        }
        for (int left = 1; left >= 0; left--) {
            weight--;
            Check.due("undo()", x.undo(), left);
            Check.due("the weight", x.path(0, 2), weight);
        }
        Check.due("no more", x.undo(), Check.NOT_POSSIBLE);
    }

    /** A meter with all that a state can hold. */
    private static TransitMeter rich() {
        TransitMeter x = Check.withPaths(1, 2, 3);
        x.setPoint(5000, 900);
        x.setPoint(100, 1100);
        x.set(1, 1);
        for (int i = 0; i < 13; i++) {
            Check.aim(x, 0, 100000 + i, 101000);
            Check.aim(x, 1, 100000, 100500 + i);
            if (i < 9) {
                Check.aim(x, 2, 100000 + i % 2 * 1000, 100700);
            }
            x.close();
        }
        x.set(2, 100);
        Check.aim(x, 0, 109000, 101000);
        Check.aim(x, 1, 101000, 100512);
        Check.aim(x, 2, 100000, 100700);
        Check.due("to be an outlier", x.wouldBecome(0), TransitMeter.OUTLIER);
        Check.due("to be corrected", x.wouldBecome(1), TransitMeter.CORRECTED);
        return x;
    }

    private static int change(TransitMeter x, int call) {
        switch (call) {
            case 0: return x.addPath(70, 60, 5, 400, 3);
            case 1: return x.setWeight(1, 77);
            case 2: return x.setPoint(5000, 1300);
            case 3: return x.removePoint(100);
            case 4: return x.set(0, 10);
            case 5: return x.shot(2, 100000, 100600, 88);
            case 6: return x.close();
            case 7: return x.swap();
            case 8: return x.forget(1);
            default: return x.restore(1);
        }
    }

    private static void undoOfEachCall() {
        for (int call = 0; call <= 9; call++) {
            TransitMeter x = rich();
            x.save(1);
            x.addPath(300, 200, 4, 300, 20);
            x.removePoint(5000);
            x.setPoint(5000, 900);
            x.undo();
            x.undo();
            x.undo();
            if (call == 9) {
                x.close();
            }
            String before = Check.seen(x);
            int states = x.total(8);
            Check.holds("change " + call + " is no error", change(x, call) > -1000000);
            Check.holds("change " + call + " can be seen", !before.equals(Check.seen(x)));
            Check.due("change " + call + " is recorded", x.total(8), Math.min(5, states + 1));
            Check.due("undo of change " + call, x.undo(), Math.min(5, states + 1) - 1);
            Check.holds("all is as before change " + call, before.equals(Check.seen(x)));
        }
    }

    /** Each recorded call drops the oldest of five states, and no other one. */
    private static void fullHistoryOfEachCall() {
        for (int call = 0; call <= 9; call++) {
            TransitMeter x = rich();
            x.save(1);
            String[] before = new String[6];
            for (int i = 0; i < 6; i++) {
                before[i] = Check.seen(x);
                if (i < 5) {
                    x.setWeight(2, 200 + i);
                }
            }
            Check.due("five states", x.total(8), 5);
            Check.holds("change " + call + " is no error", change(x, call) > -1000000);
            Check.due("five states after change " + call, x.total(8), 5);
            for (int i = 5; i >= 1; i--) {
                Check.due("undo() after change " + call, x.undo(), i - 1);
                Check.holds("state " + i + " after change " + call, before[i].equals(Check.seen(x)));
            }
            Check.due("the oldest is dropped by change " + call, x.undo(), Check.NOT_POSSIBLE);
        }
    }

    /** Recorded also if nothing becomes different. */
    private static void eachCallWithoutADifference() {
        TransitMeter x = new TransitMeter();
        Check.due("set to what it is", x.set(0, 40), 40);
        Check.due("recorded", x.total(8), 1);
        Check.due("run() of no acts", x.run(), 0);
        Check.due("recorded", x.total(8), 2);
        x.addPath(100, 50, 1, 1000, 0);
        Check.due("setWeight to what it is", x.setWeight(0, 1), 1);
        Check.due("recorded", x.total(8), 4);
        Check.due("forget of none", x.forget(0), 0);
        Check.due("recorded", x.total(8), 5);
        x.undo();
        x.undo();
        x.setPoint(7, 900);
        Check.due("setPoint to what it is", x.setPoint(7, 900), 1);
        Check.due("recorded", x.total(8), 5);
        x.undo();
        x.undo();
        x.shot(0, 5000, 6000, 7);
        Check.due("shot as it is", x.shot(0, 5000, 6000, 7), 1);
        Check.due("recorded", x.total(8), 5);
        x.undo();
        x.save(0);
        Check.due("restore of what is", x.restore(0), 0);
        Check.due("recorded", x.total(8), 5);
        Check.due("undo()", x.undo(), 4);
    }

    private static void notRecorded() {
        TransitMeter x = Check.withReferences(1, 2);
        int states = x.total(8);
        x.save(0);
        x.append('c');
        x.faultPosition();
        x.clearText();
        x.wouldBe();
        x.wouldBecome(0);
        x.skipsNeeded();
        x.velocity(0, 5000, 5000);
        x.ideal(0, 1500, 0, false);
        Check.seen(x);
        Check.due("none of these is recorded", x.total(8), states);
    }

    private static void save() {
        TransitMeter x = new TransitMeter();
        Check.due("save(0) of a new one", x.save(0), 0);
        for (int wrong : new int[] {-1, 2, Integer.MIN_VALUE, Integer.MAX_VALUE}) {
            Check.due("save(" + wrong + ")", x.save(wrong), Check.BAD_INDEX);
            Check.due("restore(" + wrong + ")", x.restore(wrong), Check.BAD_INDEX);
        }
        Check.due("restore(1) of an empty slot", x.restore(1), Check.NOT_POSSIBLE);
        Check.due("nothing is recorded", x.total(8), 0);
        x.addPath(100, 50, 1, 1000, 0);
        x.close();
        x.close();
        Check.due("save(1)", x.save(1), 2);
        x.close();
        Check.due("save(1) in place", x.save(1), 3);
        Check.due("restore(0)", x.restore(0), 0);
        Check.due("no path", x.total(0), 0);
        Check.due("restore(1)", x.restore(1), 3);
        Check.due("a path", x.total(0), 1);
    }

    private static void slotsAtTheirBounds() {
        TransitMeter x = Check.withPaths(1);
        Check.due("save(-1)", x.save(-1), Check.BAD_INDEX);
        Check.due("save(0)", x.save(0), 0);
        Check.due("save(1)", x.save(1), 0);
        Check.due("save(2)", x.save(2), Check.BAD_INDEX);
        Check.due("restore(-1)", x.restore(-1), Check.BAD_INDEX);
        Check.due("restore(0)", x.restore(0), 0);
        Check.due("restore(1)", x.restore(1), 0);
        Check.due("restore(2)", x.restore(2), Check.BAD_INDEX);
    }

    private static void eachSlotEmptyAtFirst() {
        for (int slot = 0; slot <= 1; slot++) {
            TransitMeter x = Check.withPaths(1);
            Check.due("restore(" + slot + ") at first", x.restore(slot), Check.NOT_POSSIBLE);
            x.save(1 - slot);
            Check.due("restore(" + slot + ") with the other filled", x.restore(slot), Check.NOT_POSSIBLE);
            Check.due("restore of the other", x.restore(1 - slot), 0);
            Check.due("restore(" + slot + ") after that", x.restore(slot), Check.NOT_POSSIBLE);
            Check.due("states", x.total(8), 2);
            x.save(slot);
            Check.due("restore(" + slot + ") when filled", x.restore(slot), 0);
        }
    }

    /** Slots are no part of a state: undo neither fills nor empties one. */
    private static void emptySlotStaysEmpty() {
        TransitMeter x = Check.withPaths(1);
        x.save(0);
        x.undo();
        Check.due("the slot stays filled", x.restore(0), 0);
        x.save(1);
        x.undo();
        Check.due("and the other one", x.restore(1), 0);
        TransitMeter y = Check.withPaths(1);
        Check.due("a refused save", y.save(2), Check.BAD_INDEX);
        Check.due("fills none", y.restore(0), Check.NOT_POSSIBLE);
        Check.due("fills none", y.restore(1), Check.NOT_POSSIBLE);
    }

    private static void saveInPlace() {
        for (int slot = 0; slot <= 1; slot++) {
            TransitMeter x = Check.withPaths(1);
            for (int closed = 0; closed < 3; closed++) {
                Check.due("save(" + slot + ")", x.save(slot), closed);
                x.close();
            }
            Check.due("restore(" + slot + ")", x.restore(slot), 2);
            Check.due("total(3)", x.total(3), 2);
            Check.due("restore(" + slot + ") again", x.restore(slot), 2);
        }
    }

    private static void restore() {
        TransitMeter x = rich();
        String saved = Check.seen(x);
        Check.due("save(0)", x.save(0), 13);
        x.close();
        x.swap();
        x.removePoint(100);
        String changed = Check.seen(x);
        int states = x.total(8);
        Check.due("restore(0)", x.restore(0), 13);
        Check.holds("all is as saved", saved.equals(Check.seen(x)));
        Check.due("restore is recorded", x.total(8), Math.min(5, states + 1));
        Check.due("undo()", x.undo(), 4);
        Check.holds("the restore is undone", changed.equals(Check.seen(x)));
        Check.due("restore(0) once more", x.restore(0), 13);
        Check.holds("the slot still holds it", saved.equals(Check.seen(x)));
    }

    private static void restoreAtAFullHistory() {
        TransitMeter x = Check.withPaths(1);
        x.save(0);
        for (int weight = 2; weight <= 7; weight++) {
            x.setWeight(0, weight);
        }
        Check.due("restore(0)", x.restore(0), 0);
        Check.due("the weight of the slot", x.path(0, 2), 1);
        Check.due("five states", x.total(8), 5);
        for (int left = 4; left >= 0; left--) {
            Check.due("undo()", x.undo(), left);
            Check.due("the weight", x.path(0, 2), left + 3);
        }
        Check.due("the oldest is dropped", x.undo(), Check.NOT_POSSIBLE);
    }

    /** The history and the text that were there at saving do not come back. */
    private static void restoredHasNoOtherHistory() {
        TransitMeter x = Check.withPaths(1, 1, 1);
        Check.type(x, "abc");
        x.save(0);
        x.undo();
        x.undo();
        x.clearText();
        Check.due("restore(0)", x.restore(0), 0);
        Check.due("two states, not four", x.total(8), 2);
        Check.due("no text", x.total(9), 0);
        Check.due("three paths", x.total(0), 3);
        Check.due("undo()", x.undo(), 1);
        Check.due("one path", x.total(0), 1);
    }

    private static void slotsAreCopies() {
        TransitMeter x = rich();
        x.save(0);
        String saved = Check.seen(x);
        for (int call = 0; call < 9; call++) {
            change(x, call);
        }
        x.save(1);
        String other = Check.seen(x);
        x.restore(0);
        Check.holds("changes do not reach the slot", saved.equals(Check.seen(x)));
        for (int call = 0; call < 9; call++) {
            change(x, call);
        }
        x.restore(0);
        Check.holds("changes after restoring neither", saved.equals(Check.seen(x)));
        x.restore(1);
        Check.holds("the slots are apart", other.equals(Check.seen(x)));
    }

    private static void slotsOutliveUndo() {
        TransitMeter x = Check.withPaths(1);
        x.save(0);
        x.setWeight(0, 9);
        x.undo();
        x.undo();
        Check.due("no path", x.total(0), 0);
        Check.due("restore(0)", x.restore(0), 0);
        Check.due("the path of the slot", x.path(0, 2), 1);
        Check.due("the history stays with restore", x.total(8), 1);
    }
}
