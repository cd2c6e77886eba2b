/** No call throws, whatever its arguments are, in whatever state; what is printed otherwise is the machine's trace. */
public final class NeverThrowsTest {
    private static final int[] ODD = {Integer.MIN_VALUE, Integer.MIN_VALUE + 1, -2000000005, -10000001, -100001,
        -100000, -20000, -13, -1, 0, 1, 2, 3, 4, 5, 6, 7, 9, 10, 11, 12, 13, 14, 15, 32, 40, 50, 99, 100, 101, 126,
        300, 999, 1000, 1500, 2000, 5000, 6000, 10000, 99999, 100000, 100001, 9999999, 10000000, 2000000000,
        Integer.MAX_VALUE - 1, Integer.MAX_VALUE};
    private static final int METHODS = 31;

    private static long seed = 4711;

    public static void main(String[] args) {
        for (int kind = 0; kind < 5; kind++) {
            oddArguments(kind);
        }
        for (int run = 0; run < 300; run++) {
            oddCalls();
        }
        longLife();
        Check.holds("no call threw", true);
        Check.finish();
    }

    private static int below(int bound) {
        seed = seed * 48271 % 2147483647;
        return (int) (seed % bound);
    }

    private static int odd() {
        return ODD[below(ODD.length)];
    }

    private static TransitMeter of(int kind) {
        if (kind == 0) {
            return new TransitMeter();
        }
        TransitMeter x = kind == 1 ? Check.withPaths(1) : Check.withReferences(1, 2, 3, 1000);
        if (kind >= 3) {
            for (int i = 0; i < 6; i++) {
                x.setPoint(i * 20000, 500 + i * 200);
            }
            Check.type(x, "s0f101000b9999999q90;w;c;s3f1000b1000q99;");
        }
        if (kind == 4) {
            x.run();
            x.save(0);
            x.save(1);
        }
        return x;
    }

    private static void oddArguments(int kind) {
        for (int first : ODD) {
            for (int second : ODD) {
                TransitMeter x = of(kind);
                for (int method = 0; method < METHODS; method++) {
                    call(x, method, first, second, second, first, first, second % 2 == 0);
                    call(x, method, first, second, odd(), odd(), odd(), true);
                }
            }
        }
    }

    private static void oddCalls() {
        TransitMeter x = of(below(5));
        for (int i = 0; i < 512; i++) {
            call(x, below(METHODS), odd(), odd(), odd(), odd(), odd(), below(2) == 0);
        }
    }

    /** Later calls than the 512th may answer anything, but even they need not throw. */
    private static void longLife() {
        TransitMeter x = of(4);
        Check.type(x, "s0f1001b9999999q90;c;s0f9999999b1001q90;c;c;w;s1f5000b5100q90;c;");
        for (int i = 0; i < 5000; i++) {
            x.run();
            call(x, below(METHODS), odd(), odd(), odd(), odd(), odd(), false);
        }
    }

    private static void call(TransitMeter x, int method, int a, int b, int c, int d, int e, boolean f) {
        switch (method) {
            case 0: x.addPath(a, b, c, d, e); break;
            case 1: x.setWeight(a, b); break;
            case 2: x.setPoint(a, b); break;
            case 3: x.removePoint(a); break;
            case 4: x.set(a, b); break;
            case 5: x.shot(a, b, c, d); break;
            case 6: x.close(); break;
            case 7: x.swap(); break;
            case 8: x.forget(a); break;
            case 9: x.append(a); break;
            case 10: x.clearText(); break;
            case 11: x.faultPosition(); break;
            case 12: x.run(); break;
            case 13: x.undo(); break;
            case 14: x.save(a); break;
            case 15: x.restore(a); break;
            case 16: x.path(a, b); break;
            case 17: x.told(a, b); break;
            case 18: x.sound(a); break;
            case 19: x.factor(a); break;
            case 20: x.round(a, b); break;
            case 21: x.volume(a); break;
            case 22: x.statistic(a); break;
            case 23: x.trust(a); break;
            case 24: x.total(a); break;
            case 25: x.velocity(a, b, c); break;
            case 26: x.ideal(a, b, c, f); break;
            case 27: x.wouldBe(); break;
            case 28: x.wouldBecome(a); break;
            case 29: x.skipsNeeded(); break;
            default: x.addPath(2000 - below(1950), 10 + below(40), 1 + below(1000), 100 + below(999), below(5000));
        }
    }
}
