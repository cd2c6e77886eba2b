import java.util.ArrayList;
import java.util.List;

/** "A call that reports an error changes nothing", for each error of each call, and the order of the checks. */
public final class RefusedTest {
    private static final int MIN = Integer.MIN_VALUE;
    private static final int MAX = Integer.MAX_VALUE;

    private interface Call {
        long on(TransitMeter x);
    }

    private record Refused(String name, long due, Call call) {
    }

    public static void main(String[] args) {
        refusedByANewOne();
        refusedByOneWithoutShots();
        refusedBetween();
        refusedByAFullOne();
        refusedOneAfterTheOther();
        noneIsNoError();
        Check.finish();
    }

    /** What an error is answered for whatever the state is. */
    private static List<Refused> alwaysRefused() {
        List<Refused> all = new ArrayList<>();
        addWrongPaths(all);
        addWrongPoints(all);
        for (int setting : new int[] {-1, 5, MIN, MAX}) {
            add(all, "set(" + setting + ", 1)", Check.BAD_INDEX, x -> x.set(setting, 1));
            add(all, "set(" + setting + ", -1)", Check.BAD_INDEX, x -> x.set(setting, -1));
        }
        int[] low = {0, 0, 1, 1, 1};
        int[] high = {100, 5, 100, 1000000, 1000};
        for (int i = 0; i < 5; i++) {
            int setting = i;
            for (int wrong : new int[] {low[i] - 1, high[i] + 1, MIN, MAX}) {
                add(all, "set(" + i + ", " + wrong + ")", Check.BAD_VALUE, x -> x.set(setting, wrong));
            }
        }
        for (int wrong : new int[] {31, 127, 0, -1, MIN, MAX}) {
            add(all, "append(" + wrong + ")", Check.BAD_VALUE, x -> x.append(wrong));
        }
        for (int slot : new int[] {-1, 2, MIN, MAX}) {
            add(all, "save(" + slot + ")", Check.BAD_INDEX, x -> x.save(slot));
            add(all, "restore(" + slot + ")", Check.BAD_INDEX, x -> x.restore(slot));
        }
        addWrongLooks(all);
        for (int path : Check.NO_NUMBER_OF_A_PATH) {
            addNoSuchPath(all, path);
        }
        return all;
    }

    private static void add(List<Refused> all, String name, int due, Call call) {
        all.add(new Refused(name, due, call));
    }

    private static void addWrongPaths(List<Refused> all) {
        int[][] wrong = {{49, 10, 1, 100, 0}, {2001, 10, 1, 100, 0}, {50, 9, 1, 100, 0}, {50, 51, 1, 100, 0},
            {2000, 2001, 1, 100, 0}, {50, 10, 0, 100, 0}, {50, 10, 1001, 100, 0}, {50, 10, 1, 99, 0},
            {50, 10, 1, 10001, 0}, {50, 10, 1, 100, -1}, {50, 10, 1, 100, 5001}, {MIN, MIN, MIN, MIN, MIN},
            {MAX, MAX, MAX, MAX, MAX}};
        for (int[] a : wrong) {
            add(all, "addPath(" + a[0] + ", " + a[1] + ", " + a[2] + ", " + a[3] + ", " + a[4] + ")", Check.BAD_VALUE,
                    x -> x.addPath(a[0], a[1], a[2], a[3], a[4]));
        }
    }

    private static void addWrongPoints(List<Refused> all) {
        for (int velocity : new int[] {-1, 100001, MIN, MAX}) {
            add(all, "setPoint(" + velocity + ", 1000)", Check.BAD_VALUE, x -> x.setPoint(velocity, 1000));
            add(all, "removePoint(" + velocity + ")", Check.BAD_VALUE, x -> x.removePoint(velocity));
        }
        for (int factor : new int[] {499, 1501, 0, -500, MIN, MAX}) {
            add(all, "setPoint(7000, " + factor + ")", Check.BAD_VALUE, x -> x.setPoint(7000, factor));
        }
        add(all, "removePoint(7000)", Check.NOT_POSSIBLE, x -> x.removePoint(7000));
    }

    private static void addWrongLooks(List<Refused> all) {
        for (int velocity : new int[] {-100001, 100001, MIN, MAX}) {
            add(all, "factor(" + velocity + ")", Check.BAD_VALUE, x -> x.factor(velocity));
        }
        for (int back : new int[] {-1, 12, MIN, MAX}) {
            add(all, "round(" + back + ", 0)", Check.BAD_INDEX, x -> x.round(back, 0));
            add(all, "round(" + back + ", 6)", Check.BAD_INDEX, x -> x.round(back, 6));
        }
        for (int which : new int[] {-1, 3, MIN, MAX}) {
            add(all, "volume(" + which + ")", Check.BAD_VALUE, x -> x.volume(which));
        }
        for (int which : new int[] {-1, 5, MIN, MAX}) {
            add(all, "statistic(" + which + ")", Check.BAD_VALUE, x -> x.statistic(which));
        }
        for (int place : new int[] {-1, MIN}) {
            add(all, "trust(" + place + ")", Check.BAD_VALUE, x -> x.trust(place));
        }
        for (int property : new int[] {-1, 15, MIN, MAX}) {
            add(all, "total(" + property + ")", Check.BAD_VALUE, x -> x.total(property));
        }
    }

    /** BAD_INDEX comes ahead of BAD_VALUE, so it is due with right and with wrong other arguments. */
    private static void addNoSuchPath(List<Refused> all, int path) {
        String of = "(" + path + ", ";
        add(all, "setWeight" + of + "5)", Check.BAD_INDEX, x -> x.setWeight(path, 5));
        add(all, "setWeight" + of + "0)", Check.BAD_INDEX, x -> x.setWeight(path, 0));
        add(all, "shot" + of + "8000, 8000, 50)", Check.BAD_INDEX, x -> x.shot(path, 8000, 8000, 50));
        add(all, "shot" + of + "999, 8000, 50)", Check.BAD_INDEX, x -> x.shot(path, 999, 8000, 50));
        add(all, "shot" + of + "8000, 8000, 101)", Check.BAD_INDEX, x -> x.shot(path, 8000, 8000, 101));
        add(all, "forget(" + path + ")", Check.BAD_INDEX, x -> x.forget(path));
        add(all, "path" + of + "0)", Check.BAD_INDEX, x -> x.path(path, 0));
        add(all, "path" + of + "14)", Check.BAD_INDEX, x -> x.path(path, 14));
        add(all, "told" + of + "0)", Check.BAD_INDEX, x -> x.told(path, 0));
        add(all, "told" + of + "3)", Check.BAD_INDEX, x -> x.told(path, 3));
        add(all, "sound(" + path + ")", Check.BAD_INDEX, x -> x.sound(path));
        add(all, "velocity" + of + "8000, 8000)", Check.BAD_INDEX, x -> x.velocity(path, 8000, 8000));
        add(all, "velocity" + of + "999, 8000)", Check.BAD_INDEX, x -> x.velocity(path, 999, 8000));
        add(all, "ideal" + of + "1500, 0, true)", Check.BAD_INDEX, x -> x.ideal(path, 1500, 0, true));
        add(all, "ideal" + of + "299, 0, true)", Check.BAD_INDEX, x -> x.ideal(path, 299, 0, true));
        add(all, "wouldBecome(" + path + ")", Check.BAD_INDEX, x -> x.wouldBecome(path));
    }

    /** What is refused of a path that there is, with a delay of 500. */
    private static void addWrongOfAPath(List<Refused> all, int path) {
        String of = "(" + path + ", ";
        for (int weight : new int[] {0, 1001, -1, MIN, MAX}) {
            add(all, "setWeight" + of + weight + ")", Check.BAD_VALUE, x -> x.setWeight(path, weight));
        }
        for (int time : new int[] {999, 1000, 1499, 10000000, 0, MIN, MAX}) {
            add(all, "shot" + of + time + ", 8000, 50)", Check.BAD_VALUE, x -> x.shot(path, time, 8000, 50));
            add(all, "shot" + of + "8000, " + time + ", 50)", Check.BAD_VALUE, x -> x.shot(path, 8000, time, 50));
            add(all, "velocity" + of + time + ", 8000)", Check.BAD_VALUE, x -> x.velocity(path, time, 8000));
            add(all, "velocity" + of + "8000, " + time + ")", Check.BAD_VALUE, x -> x.velocity(path, 8000, time));
        }
        for (int quality : new int[] {-1, 101, MIN, MAX}) {
            add(all, "shot" + of + "8000, 8000, " + quality + ")", Check.BAD_VALUE,
                    x -> x.shot(path, 8000, 8000, quality));
        }
        for (int property : new int[] {-1, 14, MIN, MAX}) {
            add(all, "path" + of + property + ")", Check.BAD_VALUE, x -> x.path(path, property));
        }
        for (int property : new int[] {-1, 3, MIN, MAX}) {
            add(all, "told" + of + property + ")", Check.BAD_VALUE, x -> x.told(path, property));
        }
        for (int sound : new int[] {299, 3001, MIN, MAX}) {
            add(all, "ideal" + of + sound + ", 0, false)", Check.BAD_VALUE, x -> x.ideal(path, sound, 0, false));
        }
        for (int flow : new int[] {-20001, 20001, MIN, MAX}) {
            add(all, "ideal" + of + "1500, " + flow + ", true)", Check.BAD_VALUE, x -> x.ideal(path, 1500, flow, true));
        }
    }

    private static void refusedByANewOne() {
        List<Refused> all = alwaysRefused();
        for (int path = 0; path < 4; path++) {
            addNoSuchPath(all, path);
        }
        for (int velocity : new int[] {0, 100000}) {
            add(all, "removePoint(" + velocity + ")", Check.NOT_POSSIBLE, x -> x.removePoint(velocity));
        }
        add(all, "close()", Check.NOT_POSSIBLE, TransitMeter::close);
        add(all, "undo()", Check.NOT_POSSIBLE, TransitMeter::undo);
        add(all, "restore(0)", Check.NOT_POSSIBLE, x -> x.restore(0));
        add(all, "restore(1)", Check.NOT_POSSIBLE, x -> x.restore(1));
        add(all, "wouldBe()", Check.NOT_POSSIBLE, TransitMeter::wouldBe);
        add(all, "round(0, 0)", Check.BAD_INDEX, x -> x.round(0, 0));
        for (Refused each : all) {
            compare("a new one", new TransitMeter(), new TransitMeter(), List.of(each));
        }
    }

    private static TransitMeter withoutShots() {
        TransitMeter x = new TransitMeter();
        x.addPath(100, 50, 3, 1000, 500);
        return x;
    }

    private static void refusedByOneWithoutShots() {
        List<Refused> all = alwaysRefused();
        addWrongOfAPath(all, 0);
        for (int path = 1; path < 4; path++) {
            addNoSuchPath(all, path);
        }
        for (Refused each : all) {
            compare("one without shots", withoutShots(), withoutShots(), List.of(each));
        }
    }

    /** Two paths with shots, one round, one point, 2 states in the history, one slot, a text with a fault. */
    private static TransitMeter between() {
        TransitMeter x = new TransitMeter();
        x.addPath(100, 50, 3, 1000, 500);
        x.addPath(200, 100, 4, 900, 500);
        x.setPoint(9000, 1100);
        for (int i = 0; i < 3; i++) {
            x.shot(0, 100000 + i * 300, 101000, 90);
            x.shot(1, 150000 + i * 300, 151000, i * 20);
            x.close();
        }
        x.save(1);
        x.swap();
        while (x.total(8) > 0) {
            x.undo();
        }
        x.set(0, 30);
        x.shot(1, 150000, 151100, 77);
        Check.type(x, "w;c;s0f9000b9000q9;s1f999");
        return x;
    }

    private static void refusedBetween() {
        List<Refused> all = alwaysRefused();
        addWrongOfAPath(all, 0);
        addWrongOfAPath(all, 1);
        addNoSuchPath(all, 2);
        addNoSuchPath(all, 3);
        add(all, "run()", Check.NOT_POSSIBLE, TransitMeter::run);
        add(all, "restore(0)", Check.NOT_POSSIBLE, x -> x.restore(0));
        int kept = between().total(5);
        add(all, "round(as many as kept, 0)", Check.BAD_INDEX, x -> x.round(kept, 0));
        for (int property : new int[] {-1, 6, MIN, MAX}) {
            add(all, "round(0, " + property + ")", Check.BAD_VALUE, x -> x.round(0, property));
        }
        for (Refused each : all) {
            compare("one between", between(), between(), List.of(each));
        }
    }

    /** Four paths with shots, 12 rounds and more, 6 points, 5 states in the history, both slots, 100 bytes. */
    private static TransitMeter full() {
        TransitMeter x = new TransitMeter();
        for (int path = 0; path < 4; path++) {
            x.addPath(100 + path, 50, 1 + path, 1000, 500);
        }
        for (int point = 0; point < 6; point++) {
            x.setPoint(point * 20000, 900 + point);
        }
        for (int i = 0; i < 14; i++) {
            for (int path = 0; path < 4; path++) {
                x.shot(path, 100000 + i * 300, 101000 + path * 10, 39 + i % 3);
            }
            x.close();
        }
        x.save(0);
        x.swap();
        x.save(1);
        for (int path = 0; path < 4; path++) {
            x.shot(path, 104000, 101000 + path * 1000, 90);
        }
        Check.type(x, "s0f9000b9000q9;".repeat(6) + "c;w;c;w;;;");
        return x;
    }

    private static void refusedByAFullOne() {
        List<Refused> all = alwaysRefused();
        for (int path = 0; path < 4; path++) {
            addWrongOfAPath(all, path);
        }
        add(all, "addPath(100, 50, 1, 1000, 0)", Check.FULL, x -> x.addPath(100, 50, 1, 1000, 0));
        add(all, "setPoint(7000, 1000)", Check.FULL, x -> x.setPoint(7000, 1000));
        add(all, "append(32)", Check.FULL, x -> x.append(32));
        add(all, "append(126)", Check.FULL, x -> x.append(126));
        add(all, "run()", Check.NOT_POSSIBLE, TransitMeter::run);
        for (Refused each : all) {
            compare("a full one", full(), full(), List.of(each));
        }
    }

    private static void refusedOneAfterTheOther() {
        List<Refused> all = alwaysRefused();
        addWrongOfAPath(all, 1);
        compare("one between, all of them", between(), between(), all);
        compare("a full one, all of them", full(), full(), all);
    }

    /** One of two equal meters is called, then both must answer alike, whatever is looked at. */
    private static void compare(String state, TransitMeter called, TransitMeter other, List<Refused> calls) {
        for (Refused each : calls) {
            Check.due(state + ": " + each.name(), each.call().on(called), each.due());
        }
        String last = calls.get(calls.size() - 1).name();
        Check.holds(state + ": " + last + " changes nothing", everything(called).equals(everything(other)));
    }

    /** All that can be found out of a meter: what is seen, the text, the slots, and each state of the history. */
    private static String everything(TransitMeter x) {
        StringBuilder all = new StringBuilder(Check.seen(x));
        all.append("\nstates ").append(x.total(8)).append(" bytes ").append(x.total(9));
        all.append(" fault ").append(x.faultPosition());
        while (x.total(8) > 0) {
            all.append("\nundo ").append(x.undo()).append(Check.seen(x));
        }
        for (int slot = 0; slot <= 1; slot++) {
            all.append("\nslot ").append(x.restore(slot)).append(Check.seen(x));
        }
        all.append("\nrun ").append(x.run()).append(" append ").append(x.append(';')).append(x.faultPosition());
        return all.append("\nclear ").append(x.clearText()).append(Check.seen(x)).toString();
    }

    /** NONE is no error: the call is recorded, and what it does is done. */
    private static void noneIsNoError() {
        TransitMeter x = withoutShots();
        Check.due("close() of a lost round", x.close(), Check.NONE);
        Check.due("it is recorded", x.total(8), 2);
        Check.due("it is closed", x.total(3), 1);
        Check.due("NONE is told only where no error applies: told(0, 3)", x.told(0, 3), Check.BAD_VALUE);
        Check.due("told(0, 0)", x.told(0, 0), Check.NONE);
        Check.due("statistic(5)", x.statistic(5), Check.BAD_VALUE);
        Check.due("statistic(1)", x.statistic(1), Check.NONE);
        Check.due("trust(-1)", x.trust(-1), Check.BAD_VALUE);
        Check.due("trust(1)", x.trust(1), Check.NONE);
        Check.due("path(0, 14)", x.path(0, 14), Check.BAD_VALUE);
        Check.due("path(0, 5)", x.path(0, 5), Check.NONE);
        Check.due("sound(1)", x.sound(1), Check.BAD_INDEX);
        Check.due("sound(0)", x.sound(0), Check.NONE);
        Check.due("round(0, 6)", x.round(0, 6), Check.BAD_VALUE);
        Check.due("round(0, 0)", x.round(0, 0), Check.NONE);
        TransitMeter none = new TransitMeter();
        Check.due("wouldBe() without paths", none.wouldBe(), Check.NOT_POSSIBLE);
        Check.due("wouldBe() without shots", x.wouldBe(), Check.NONE);
        Check.due("close() without paths", none.close(), Check.NOT_POSSIBLE);
    }
}
