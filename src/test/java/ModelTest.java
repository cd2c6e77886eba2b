/** Compares TransitMeter with PlainMeter, call by call, in long runs of calls that always are the same ones. */
public final class ModelTest {
    private static final int RUNS = 400;
    private static final int CALLS = 512;
    private static final int[] ODD = {Integer.MIN_VALUE, Integer.MAX_VALUE, -1, 0, 1, 5, 6, 12, 15, 999, 100001,
        10000000, -100001};

    private final TransitMeter meter = new TransitMeter();
    private final PlainMeter plain = new PlainMeter();
    private final String name;
    private long seed;

    private ModelTest(int run) {
        name = "run " + run;
        seed = run * 7919L + 17;
    }

    public static void main(String[] args) {
        for (int run = 0; run < RUNS; run++) {
            new ModelTest(run).compare(run % 4);
        }
        Check.finish();
    }

    /** Minimal standard generator; the runs must be the same each time. */
    private int below(int bound) {
        seed = seed * 48271 % 2147483647;
        return (int) (seed % bound);
    }

    private int from(int low, int high) {
        return low + below(high - low + 1);
    }

    private int mostly(int low, int high) {
        int kind = below(60);
        if (kind == 0) {
            return ODD[below(ODD.length)];
        }
        if (kind == 1) {
            return low - 1;
        }
        if (kind == 2) {
            return high + 1;
        }
        return kind == 3 ? low : kind == 4 ? high : from(low, high);
    }

    private void due(String call, int number, long got, long want) {
        Check.due(name + ", call " + number + ", " + call, got, want);
    }

    /** The kinds of runs: 0 evenly mixed, 1 mostly measuring, 2 measuring near each other, 3 texts. */
    private void compare(int kind) {
        for (int call = 0; call < CALLS; call++) {
            if (kind != 0 && call < 3) {
                addPath(call);
            } else if (kind == 3 && below(12) == 0) {
                typeText(call);
            } else if (kind != 0 && below(10) < 6) {
                measure(call, kind);
            } else {
                anyChange(call);
            }
            if (call % 3 == 0) {
                look(call);
            }
        }
        lookAtAll();
    }

    private void addPath(int call) {
        int length = mostly(50, below(3) == 0 ? 2000 : 120);
        int axial = mostly(10, Math.max(10, Math.min(length, 2000)));
        int weight = mostly(1, below(2) == 0 ? 4 : 1000);
        int period = mostly(100, below(2) == 0 ? 500 : 10000);
        int delay = mostly(0, below(2) == 0 ? 30 : 5000);
        due("addPath", call, meter.addPath(length, axial, weight, period, delay),
                plain.addPath(length, axial, weight, period, delay));
    }

    /** A time that lies some periods beside the reference, so that votes and skips arise. */
    private int timeNear(int path, int way) {
        int reference = plain.path(path, 5 + way);
        int period = plain.path(path, 3);
        if (reference < 0 || period < 0 || below(25) == 0) {
            return below(4) == 0 ? mostly(1000, 9999999) : mostly(6000, 6400);
        }
        int half = below(3) == 0 ? period / 2 + from(-1, 1) : below(period) / 4;
        return reference + from(-2, 2) * (below(3) + 1) / 2 * period + (below(2) == 0 ? half : -half);
    }

    private void measure(int call, int kind) {
        int act = below(12);
        if (act < 8) {
            int path = mostly(0, Math.max(0, plain.total(0) - 1));
            int forward = kind == 2 ? timeNear(path, plain.total(6)) : mostly(5000, 7000);
            int backward = kind == 2 ? timeNear(path, 1 - plain.total(6)) : mostly(5000, 7000);
            int quality = below(3) == 0 ? mostly(0, 100) : mostly(40, 100);
            due("shot", call, meter.shot(path, forward, backward, quality),
                    plain.shot(path, forward, backward, quality));
        } else if (act < 11) {
            due("close", call, meter.close(), plain.close());
        } else {
            anyChange(call);
        }
    }

    private void anyChange(int call) {
        int path = mostly(0, Math.max(0, plain.total(0) - 1));
        switch (below(16)) {
            case 0: addPath(call); break;
            case 1: {
                int weight = mostly(1, 1000);
                due("setWeight", call, meter.setWeight(path, weight), plain.setWeight(path, weight));
                break;
            }
            case 2: case 3: {
                int velocity = below(2) == 0 ? mostly(0, 100000) : mostly(0, 9) * 100;
                int factor = mostly(500, 1500);
                due("setPoint", call, meter.setPoint(velocity, factor), plain.setPoint(velocity, factor));
                break;
            }
            case 4: {
                int velocity = mostly(0, 9) * 100;
                due("removePoint", call, meter.removePoint(velocity), plain.removePoint(velocity));
                break;
            }
            case 5: {
                int setting = mostly(0, 4);
                int[] high = {60, 5, 100, 1000000, 1000};
                int value = mostly(1, setting < 0 || setting > 4 ? 9 : high[setting]);
                due("set", call, meter.set(setting, value), plain.set(setting, value));
                break;
            }
            case 6: due("close", call, meter.close(), plain.close()); break;
            case 7: due("swap", call, meter.swap(), plain.swap()); break;
            case 8: due("forget", call, meter.forget(path), plain.forget(path)); break;
            case 9: typeText(call); break;
            case 10: case 11: due("undo", call, meter.undo(), plain.undo()); break;
            case 12: {
                int slot = mostly(0, 1);
                due("save", call, meter.save(slot), plain.save(slot));
                break;
            }
            case 13: {
                int slot = mostly(0, 1);
                due("restore", call, meter.restore(slot), plain.restore(slot));
                break;
            }
            case 14: due("run", call, meter.run(), plain.run()); break;
            default: measure(call, 2);
        }
    }

    private void typeText(int call) {
        due("clearText", call, meter.clearText(), plain.clearText());
        StringBuilder text = new StringBuilder();
        int acts = below(6);
        for (int i = 0; i < acts; i++) {
            int kind = below(6);
            if (kind < 4) {
                text.append('s').append(below(15) == 0 ? below(12) : below(4));
                text.append('f').append(below(15) == 0 ? below(100000000) : from(6000, 6900));
                text.append('b').append(below(15) == 0 ? below(2000) : from(6000, 6900));
                text.append('q').append(below(15) == 0 ? below(200) : from(30, 100)).append(';');
            } else {
                text.append(kind == 4 ? "c;" : "w;");
            }
        }
        if (below(4) == 0 && text.length() > 0) {
            int place = below(text.length());
            text.setCharAt(place, "0123456789sfbqcw; ~".charAt(below(19)));
        }
        if (below(6) == 0) {
            text.setLength(below(text.length() + 1));
        }
        for (int i = 0; i < text.length(); i++) {
            due("append", call, meter.append(text.charAt(i)), plain.append(text.charAt(i)));
        }
        int wrong = mostly(32, 126);
        if (below(8) == 0) {
            due("append", call, meter.append(wrong), plain.append(wrong));
        }
        due("faultPosition of " + text, call, meter.faultPosition(), plain.faultPosition());
        due("run of " + text, call, meter.run(), plain.run());
    }

    private void look(int call) {
        int path = mostly(0, 3);
        int other = mostly(0, 14);
        due("path", call, meter.path(path, other), plain.path(path, other));
        due("told", call, meter.told(path, other % 4), plain.told(path, other % 4));
        due("sound", call, meter.sound(path), plain.sound(path));
        due("round", call, meter.round(other, path), plain.round(other, path));
        due("round", call, meter.round(path, other), plain.round(path, other));
        due("volume", call, meter.volume(path), plain.volume(path));
        due("statistic", call, meter.statistic(other), plain.statistic(other));
        due("trust", call, meter.trust(path), plain.trust(path));
        due("total", call, meter.total(other), plain.total(other));
        int velocity = below(2) == 0 ? mostly(-100000, 100000) : mostly(-999, 999);
        due("factor", call, meter.factor(velocity), plain.factor(velocity));
        int forward = mostly(1000, below(2) == 0 ? 9999999 : 8000);
        int backward = mostly(1000, below(2) == 0 ? 9999999 : 8000);
        due("velocity", call, meter.velocity(path, forward, backward), plain.velocity(path, forward, backward));
        int sound = mostly(300, 3000);
        int flow = mostly(-20000, 20000);
        due("ideal", call, meter.ideal(path, sound, flow, true), plain.ideal(path, sound, flow, true));
        due("ideal", call, meter.ideal(path, sound, flow, false), plain.ideal(path, sound, flow, false));
        due("wouldBe", call, meter.wouldBe(), plain.wouldBe());
        due("wouldBecome", call, meter.wouldBecome(path), plain.wouldBecome(path));
        due("skipsNeeded", call, meter.skipsNeeded(), plain.skipsNeeded());
    }

    private void lookAtAll() {
        for (int i = -1; i <= 15; i++) {
            due("total", i, meter.total(i), plain.total(i));
            due("volume", i, meter.volume(i), plain.volume(i));
            due("statistic", i, meter.statistic(i), plain.statistic(i));
            due("trust", i, meter.trust(i), plain.trust(i));
            for (int k = -1; k <= 15; k++) {
                due("path", i, meter.path(i, k), plain.path(i, k));
                due("told", i, meter.told(i, k), plain.told(i, k));
                due("round", i, meter.round(i, k), plain.round(i, k));
            }
        }
        for (int velocity = -100000; velocity <= 100000; velocity += 50) {
            due("factor", velocity, meter.factor(velocity), plain.factor(velocity));
        }
    }
}
