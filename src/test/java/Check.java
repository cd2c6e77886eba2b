/** Counts the answers that are not as due, and ends a test with exit code 1 if there was one. */
final class Check {
    static final int BAD_INDEX = -2000000001;
    static final int BAD_VALUE = -2000000002;
    static final int NOT_POSSIBLE = -2000000003;
    static final int FULL = -2000000004;
    static final int NONE = -2000000005;
    static final int[] NO_NUMBER_OF_A_PATH = {-1, 4, 5, Integer.MIN_VALUE, Integer.MAX_VALUE};

    private static int checks;
    private static int wrong;

    private Check() {
    }

    static void due(String what, long got, long want) {
        checks++;
        if (got != want) {
            wrong++;
            System.out.println(what + " answered " + got + ", due is " + want);
        }
    }

    static void holds(String what, boolean holds) {
        due(what, holds ? 1 : 0, 1);
    }

    static void finish() {
        System.out.println(checks + " checks, " + wrong + " wrong");
        if (wrong != 0 || checks == 0) {
            System.exit(1);
        }
    }

    /** Empties the text and appends the bytes of another. */
    static void type(TransitMeter x, String text) {
        x.clearText();
        for (int i = 0; i < text.length(); i++) {
            due("append while typing " + text, x.append(text.charAt(i)), i + 1);
        }
    }

    /** Tells a shot of good quality. */
    static void aim(TransitMeter x, int path, int forward, int backward) {
        holds("shot(" + path + ", " + forward + ", " + backward + ", 90)", x.shot(path, forward, backward, 90) > 0);
    }

    /** A meter with some paths: length 100, axial length 50, the weights that are given, period 1000, no delay. */
    static TransitMeter withPaths(int... weights) {
        TransitMeter x = new TransitMeter();
        for (int i = 0; i < weights.length; i++) {
            due("addPath", x.addPath(100, 50, weights[i], 1000, 0), i);
        }
        return x;
    }

    /** The same, and each path has the reference times 100000 and 100000 from one round with velocity 0. */
    static TransitMeter withReferences(int... weights) {
        TransitMeter x = withPaths(weights);
        for (int i = 0; i < weights.length; i++) {
            aim(x, i, 100000, 100000);
        }
        due("close", x.close(), 0);
        return x;
    }

    /** Everything that can be seen of a meter but its text, its history and its slots. */
    static String seen(TransitMeter x) {
        StringBuilder all = new StringBuilder();
        for (int path = 0; path < 4; path++) {
            for (int property = 0; property <= 13; property++) {
                all.append(x.path(path, property)).append(' ');
            }
            for (int property = 0; property <= 2; property++) {
                all.append(x.told(path, property)).append(' ');
            }
            all.append(x.wouldBecome(path)).append(' ').append(x.sound(path)).append('\n');
        }
        for (int back = 0; back < 12; back++) {
            for (int property = 0; property <= 5; property++) {
                all.append(x.round(back, property)).append(' ');
            }
        }
        for (int property = 0; property <= 14; property++) {
            all.append(property == 8 || property == 9 ? 0 : x.total(property)).append(' ');
        }
        for (int v = 0; v <= 100000; v += 500) {
            all.append(x.factor(v)).append(' ');
        }
        for (int which = 0; which <= 4; which++) {
            all.append(x.statistic(which)).append(' ').append(x.trust(which)).append(' ');
            all.append(x.volume(which)).append(' ');
        }
        return all.append(x.wouldBe()).append(' ').append(x.skipsNeeded()).toString();
    }
}
