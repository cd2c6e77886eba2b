import java.math.BigInteger;
import java.util.ArrayDeque;
import java.util.ArrayList;
import java.util.Arrays;
import java.util.Comparator;
import java.util.Deque;
import java.util.List;
import java.util.Map;
import java.util.TreeMap;
import java.util.TreeSet;
import java.util.regex.Matcher;
import java.util.regex.Pattern;

/** The document once more, written the slow way and apart from TransitMeter, to compare its answers with. */
final class PlainMeter {
    private static final int BAD_INDEX = Check.BAD_INDEX;
    private static final int BAD_VALUE = Check.BAD_VALUE;
    private static final int NOT_POSSIBLE = Check.NOT_POSSIBLE;
    private static final int FULL = Check.FULL;
    private static final int NONE = Check.NONE;

    /** Null stands for what a path does not have. */
    private static final class Line {
        long length, axial, weight, period, delay;
        long[] reference;
        Long ratio;
        Integer became;
        Integer velocity;
        int missed, corrected, outlier;
        long[] shot;

        Line copy() {
            Line c = new Line();
            c.length = length;
            c.axial = axial;
            c.weight = weight;
            c.period = period;
            c.delay = delay;
            c.reference = reference == null ? null : reference.clone();
            c.ratio = ratio;
            c.became = became;
            c.velocity = velocity;
            c.missed = missed;
            c.corrected = corrected;
            c.outlier = outlier;
            c.shot = shot == null ? null : shot.clone();
            return c;
        }
    }

    private static final class All {
        List<Line> lines = new ArrayList<>();
        TreeMap<Integer, Integer> points = new TreeMap<>();
        int[] settings = {40, 2, 60, 10000, 100};
        boolean swapped;
        List<int[]> rounds = new ArrayList<>();
        int closed, lost;
        BigInteger forward = BigInteger.ZERO, backward = BigInteger.ZERO;

        All copy() {
            All c = new All();
            for (Line line : lines) {
                c.lines.add(line.copy());
            }
            c.points.putAll(points);
            c.settings = settings.clone();
            c.swapped = swapped;
            for (int[] round : rounds) {
                c.rounds.add(round.clone());
            }
            c.closed = closed;
            c.lost = lost;
            c.forward = forward;
            c.backward = backward;
            return c;
        }
    }

    private All now = new All();
    private final Deque<All> past = new ArrayDeque<>();
    private final All[] slots = new All[2];
    private String text = "";

    private static boolean out(long value, long low, long high) {
        return value < low || value > high;
    }

    private boolean noPath(int path) {
        return out(path, 0, now.lines.size() - 1);
    }

    private void record() {
        past.addLast(now.copy());
        if (past.size() > 5) {
            past.removeFirst();
        }
    }

    private static BigInteger big(long value) {
        return BigInteger.valueOf(value);
    }

    int addPath(int length, int axial, int weight, int period, int delay) {
        if (out(length, 50, 2000) || out(axial, 10, length) || out(weight, 1, 1000) || out(period, 100, 10000)
                || out(delay, 0, 5000)) {
            return BAD_VALUE;
        }
        if (now.lines.size() == 4) {
            return FULL;
        }
        record();
        Line line = new Line();
        line.length = length;
        line.axial = axial;
        line.weight = weight;
        line.period = period;
        line.delay = delay;
        now.lines.add(line);
        return now.lines.size() - 1;
    }

    int setWeight(int path, int weight) {
        if (noPath(path)) {
            return BAD_INDEX;
        }
        if (out(weight, 1, 1000)) {
            return BAD_VALUE;
        }
        record();
        int before = (int) now.lines.get(path).weight;
        now.lines.get(path).weight = weight;
        return before;
    }

    int setPoint(int velocity, int factor) {
        if (out(velocity, 0, 100000) || out(factor, 500, 1500)) {
            return BAD_VALUE;
        }
        if (now.points.size() == 6 && !now.points.containsKey(velocity)) {
            return FULL;
        }
        record();
        now.points.put(velocity, factor);
        return now.points.size();
    }

    int removePoint(int velocity) {
        if (out(velocity, 0, 100000)) {
            return BAD_VALUE;
        }
        if (!now.points.containsKey(velocity)) {
            return NOT_POSSIBLE;
        }
        record();
        return now.points.remove(velocity);
    }

    int set(int setting, int value) {
        if (out(setting, 0, 4)) {
            return BAD_INDEX;
        }
        int[][] ranges = {{0, 100}, {0, 5}, {1, 100}, {1, 1000000}, {1, 1000}};
        if (out(value, ranges[setting][0], ranges[setting][1])) {
            return BAD_VALUE;
        }
        record();
        int before = now.settings[setting];
        now.settings[setting] = value;
        return before;
    }

    int shot(int path, int forward, int backward, int quality) {
        All before = now.copy();
        int answer = tell(path, forward, backward, quality);
        return recordIfNoError(before, answer);
    }

    private int recordIfNoError(All before, int answer) {
        if (!isError(answer)) {
            All after = now;
            now = before;
            record();
            now = after;
        }
        return answer;
    }

    private static boolean isError(int answer) {
        return Arrays.asList(BAD_INDEX, BAD_VALUE, NOT_POSSIBLE, FULL).contains(answer);
    }

    private boolean badTime(int path, int time) {
        return out(time, 1000, 9999999) || time < now.lines.get(path).delay + 1000;
    }

    private int tell(int path, int forward, int backward, int quality) {
        if (noPath(path)) {
            return BAD_INDEX;
        }
        if (badTime(path, forward) || badTime(path, backward) || out(quality, 0, 100)) {
            return BAD_VALUE;
        }
        now.lines.get(path).shot = now.swapped
                ? new long[] {backward, forward, quality} : new long[] {forward, backward, quality};
        return (int) now.lines.stream().filter(line -> line.shot != null).count();
    }

    int close() {
        All before = now.copy();
        return recordIfNoError(before, closeNow());
    }

    private static long periods(long difference, long period) {
        // -(-2d + p) / 2p upwards is the nearest one, of two the nearer to zero, of a difference d above 0
        long up = Math.floorDiv(2 * Math.abs(difference) + period - 1, 2 * period);
        return Long.signum(difference) * up;
    }

    private static int speed(Line line, long forward, long backward) {
        BigInteger f = big(forward - line.delay);
        BigInteger b = big(backward - line.delay);
        BigInteger v = big(line.length).pow(2).multiply(big(500000)).divide(big(line.axial)).multiply(b.subtract(f))
                .divide(f.multiply(b).divide(big(1000)));
        return v.max(big(-100000)).min(big(100000)).intValueExact();
    }

    private int factorOf(int velocity) {
        int v = Math.abs(velocity);
        if (now.points.isEmpty()) {
            return 1000;
        }
        if (now.points.containsKey(v)) {
            return now.points.get(v);
        }
        Map.Entry<Integer, Integer> low = now.points.lowerEntry(v);
        Map.Entry<Integer, Integer> high = now.points.higherEntry(v);
        if (low == null || high == null) {
            return low == null ? high.getValue() : low.getValue();
        }
        long p = low.getKey();
        long q = high.getKey();
        return (int) ((low.getValue() * (q - v) + high.getValue() * (v - p)) / (q - p));
    }

    private int closeNow() {
        if (now.lines.isEmpty()) {
            return NOT_POSSIBLE;
        }
        int paths = now.lines.size();
        int[] became = new int[paths];
        Arrays.fill(became, -1);
        long[][] shifts = new long[paths][2];
        List<Integer> voters = new ArrayList<>();
        for (int i = 0; i < paths; i++) {
            Line line = now.lines.get(i);
            if (line.shot == null) {
                became[i] = 0;
            } else if (line.shot[2] < now.settings[0]) {
                became[i] = 1;
            } else if (line.reference != null) {
                voters.add(i);
                for (int way = 0; way < 2; way++) {
                    shifts[i][way] = periods(line.shot[way] - line.reference[way], line.period);
                }
            }
        }
        long all = voters.stream().mapToLong(i -> now.lines.get(i).weight).sum();
        int trueShifts = 0;
        for (int way = 0; way < 2; way++) {
            int w = way;
            TreeSet<Long> different = new TreeSet<>();
            voters.forEach(i -> different.add(shifts[i][w]));
            different.remove(0L);
            for (long shift : different) {
                long sum = voters.stream().filter(i -> shifts[i][w] == shift)
                        .mapToLong(i -> now.lines.get(i).weight).sum();
                if (sum * 100 >= now.settings[2] * all) {
                    trueShifts++;
                    voters.stream().filter(i -> shifts[i][w] == shift).forEach(i -> shifts[i][w] = 0);
                }
            }
        }
        Integer[] speeds = new Integer[paths];
        int accepted = 0;
        int corrected = 0;
        for (int i = 0; i < paths; i++) {
            Line line = now.lines.get(i);
            if (became[i] < 0) {
                long forward = line.shot[0] - shifts[i][0] * line.period;
                long backward = line.shot[1] - shifts[i][1] * line.period;
                boolean far = Math.abs(shifts[i][0]) > now.settings[1] || Math.abs(shifts[i][1]) > now.settings[1];
                boolean early = Math.min(forward, backward) < line.delay + 1000;
                boolean isGood = shifts[i][0] == 0 && shifts[i][1] == 0;
                became[i] = far || early ? 2 : isGood ? 4 : 3;
                if (became[i] >= 3) {
                    line.reference = new long[] {forward, backward};
                    speeds[i] = speed(line, forward, backward);
                    accepted |= 1 << i;
                    corrected |= became[i] == 3 ? 1 << i : 0;
                }
            }
        }
        int[] round = {NONE, NONE, accepted, corrected, 0, trueShifts};
        if (accepted != 0) {
            int first = mean(speeds);
            for (int i = 0; i < paths; i++) {
                Line line = now.lines.get(i);
                if (became[i] < 3 && line.ratio != null) {
                    speeds[i] = big(first).multiply(big(line.ratio)).divide(big(1000)).intValueExact();
                    round[4] |= 1 << i;
                }
            }
            int mean = mean(speeds);
            for (int i = 0; i < paths && mean != 0; i++) {
                if (became[i] >= 3) {
                    now.lines.get(i).ratio = Math.max(-5000, Math.min(5000, speeds[i] * 1000L / mean));
                }
            }
            round[1] = mean;
            round[0] = big(mean).multiply(big(factorOf(mean))).divide(big(1000)).intValueExact();
            BigInteger volume = big(round[0]).multiply(big(now.settings[3])).multiply(big(now.settings[4]))
                    .divide(big(1000));
            now.forward = now.forward.add(volume.max(BigInteger.ZERO));
            now.backward = now.backward.add(volume.negate().max(BigInteger.ZERO));
        } else {
            now.lost++;
        }
        for (int i = 0; i < paths; i++) {
            Line line = now.lines.get(i);
            line.became = became[i];
            line.velocity = speeds[i];
            line.missed = became[i] >= 3 ? 0 : line.missed + 1;
            line.corrected += became[i] == 3 ? 1 : 0;
            line.outlier += became[i] == 2 ? 1 : 0;
            line.shot = null;
        }
        now.closed++;
        now.rounds.add(0, round);
        if (now.rounds.size() > 12) {
            now.rounds.remove(12);
        }
        return round[0];
    }

    private int mean(Integer[] speeds) {
        BigInteger sum = BigInteger.ZERO;
        BigInteger weights = BigInteger.ZERO;
        for (int i = 0; i < speeds.length; i++) {
            if (speeds[i] != null) {
                BigInteger weight = big(now.lines.get(i).weight);
                sum = sum.add(weight.multiply(big(speeds[i])));
                weights = weights.add(weight);
            }
        }
        return sum.divide(weights).intValueExact();
    }

    int swap() {
        record();
        return swapNow();
    }

    private int swapNow() {
        now.swapped = !now.swapped;
        for (Line line : now.lines) {
            if (line.reference != null) {
                line.reference = new long[] {line.reference[1], line.reference[0]};
            }
            if (line.shot != null) {
                line.shot = new long[] {line.shot[1], line.shot[0], line.shot[2]};
            }
        }
        return now.swapped ? 1 : 0;
    }

    int forget(int path) {
        if (noPath(path)) {
            return BAD_INDEX;
        }
        record();
        Line line = now.lines.get(path);
        int had = line.reference != null ? 1 : 0;
        line.reference = null;
        line.ratio = null;
        return had;
    }

    int append(int b) {
        if (out(b, 32, 126)) {
            return BAD_VALUE;
        }
        if (text.length() == 100) {
            return FULL;
        }
        text += (char) b;
        return text.length();
    }

    int clearText() {
        int before = text.length();
        text = "";
        return before;
    }

    private static final Pattern NUMBER = Pattern.compile("0|[1-9][0-9]{0,6}");
    private static final Pattern ACT = Pattern.compile("[cw];|s(\\d+)f(\\d+)b(\\d+)q(\\d+);");

    int faultPosition() {
        int at = 0;
        while (at < text.length()) {
            // # stands for a path, T for a time, Q for a quality
            String form = text.charAt(at) == 's' ? "s#fTbTqQ;" : text.charAt(at) == 'w' ? "w;" : "c;";
            for (char due : form.toCharArray()) {
                if ("#TQ".indexOf(due) < 0) {
                    if (at >= text.length() || text.charAt(at) != due) {
                        return at;
                    }
                    at++;
                    continue;
                }
                Matcher number = NUMBER.matcher(text).region(at, text.length());
                if (!number.lookingAt()) {
                    return at;
                }
                int value = Integer.parseInt(number.group());
                if (out(value, due == 'T' ? 1000 : 0, due == '#' ? 3 : due == 'T' ? 9999999 : 100)) {
                    return at;
                }
                at = number.end();
            }
        }
        return NONE;
    }

    int run() {
        if (faultPosition() != NONE) {
            return NOT_POSSIBLE;
        }
        record();
        int done = 0;
        Matcher act = ACT.matcher(text);
        while (act.find()) {
            int answer;
            if (act.group(1) != null) {
                answer = tell(Integer.parseInt(act.group(1)), Integer.parseInt(act.group(2)),
                        Integer.parseInt(act.group(3)), Integer.parseInt(act.group(4)));
            } else {
                answer = act.group().equals("c;") ? closeNow() : swapNow();
            }
            if (isError(answer)) {
                break;
            }
            done++;
        }
        return done;
    }

    int undo() {
        if (past.isEmpty()) {
            return NOT_POSSIBLE;
        }
        now = past.removeLast();
        return past.size();
    }

    int save(int slot) {
        if (out(slot, 0, 1)) {
            return BAD_INDEX;
        }
        slots[slot] = now.copy();
        return now.closed;
    }

    int restore(int slot) {
        if (out(slot, 0, 1)) {
            return BAD_INDEX;
        }
        if (slots[slot] == null) {
            return NOT_POSSIBLE;
        }
        record();
        now = slots[slot].copy();
        return now.closed;
    }

    int path(int path, int property) {
        if (noPath(path)) {
            return BAD_INDEX;
        }
        if (out(property, 0, 13)) {
            return BAD_VALUE;
        }
        Line l = now.lines.get(path);
        Number[] all = {l.length, l.axial, l.weight, l.period, l.delay, l.reference == null ? null : l.reference[0],
            l.reference == null ? null : l.reference[1], l.ratio, l.became, l.velocity, l.missed, l.corrected,
            l.outlier, l.missed >= 3 ? 1 : 0};
        return all[property] == null ? NONE : all[property].intValue();
    }

    int told(int path, int property) {
        if (noPath(path)) {
            return BAD_INDEX;
        }
        if (out(property, 0, 2)) {
            return BAD_VALUE;
        }
        long[] shot = now.lines.get(path).shot;
        return shot == null ? NONE : (int) shot[property];
    }

    long sound(int path) {
        if (noPath(path)) {
            return BAD_INDEX;
        }
        Line line = now.lines.get(path);
        if (line.reference == null) {
            return NONE;
        }
        BigInteger f = big(line.reference[0] - line.delay);
        BigInteger b = big(line.reference[1] - line.delay);
        return big(line.length).multiply(big(500000)).multiply(f.add(b)).divide(f.multiply(b).divide(big(1000)))
                .longValueExact();
    }

    int factor(int velocity) {
        return out(velocity, -100000, 100000) ? BAD_VALUE : factorOf(velocity);
    }

    int round(int back, int property) {
        if (out(back, 0, now.rounds.size() - 1)) {
            return BAD_INDEX;
        }
        return out(property, 0, 5) ? BAD_VALUE : now.rounds.get(back)[property];
    }

    long volume(int which) {
        if (out(which, 0, 2)) {
            return BAD_VALUE;
        }
        BigInteger[] all = {now.forward, now.backward, now.forward.subtract(now.backward)};
        return all[which].longValueExact();
    }

    int statistic(int which) {
        if (out(which, 0, 4)) {
            return BAD_VALUE;
        }
        int[] sorted = now.rounds.stream().mapToInt(round -> round[0]).filter(v -> v != NONE).sorted().toArray();
        int n = sorted.length;
        if (which == 0 || n == 0) {
            return which == 0 ? 0 + n : NONE;
        }
        long sum = Arrays.stream(sorted).asLongStream().sum();
        int median = n % 2 == 1 ? sorted[n / 2] : (sorted[n / 2 - 1] + sorted[n / 2]) / 2;
        return new int[] {n, sorted[0], sorted[n - 1], (int) (sum / n), median}[which];
    }

    int trust(int place) {
        if (place < 0) {
            return BAD_VALUE;
        }
        List<Integer> order = new ArrayList<>();
        for (int i = 0; i < now.lines.size(); i++) {
            order.add(i);
        }
        order.sort(Comparator.<Integer, Boolean>comparing(i -> now.lines.get(i).missed >= 3)
                .thenComparing(i -> now.lines.get(i).missed)
                .thenComparing(i -> now.lines.get(i).corrected + now.lines.get(i).outlier)
                .thenComparing(i -> -now.lines.get(i).weight)
                .thenComparing(i -> i));
        return place < order.size() ? order.get(place) : NONE;
    }

    int total(int property) {
        if (out(property, 0, 14)) {
            return BAD_VALUE;
        }
        long shots = now.lines.stream().filter(line -> line.shot != null).count();
        long failing = now.lines.stream().filter(line -> line.missed >= 3).count();
        int[] all = {now.lines.size(), now.points.size(), (int) shots, now.closed, now.lost, now.rounds.size(),
            now.swapped ? 1 : 0, (int) failing, past.size(), text.length(), now.settings[0], now.settings[1],
            now.settings[2], now.settings[3], now.settings[4]};
        return all[property];
    }

    int velocity(int path, int forward, int backward) {
        if (noPath(path)) {
            return BAD_INDEX;
        }
        if (badTime(path, forward) || badTime(path, backward)) {
            return BAD_VALUE;
        }
        return speed(now.lines.get(path), forward, backward);
    }

    int ideal(int path, int sound, int flow, boolean backward) {
        if (noPath(path)) {
            return BAD_INDEX;
        }
        if (out(sound, 300, 3000) || out(flow, -20000, 20000)) {
            return BAD_VALUE;
        }
        Line line = now.lines.get(path);
        BigInteger part = big(flow).multiply(big(line.axial)).divide(big(line.length));
        BigInteger speed = big(sound * 1000L).add(backward ? part.negate() : part);
        return big(line.length).multiply(big(1000000000)).divide(speed).add(big(line.delay)).intValueExact();
    }

    private int ifClosed(int mostSkips, int path) {
        All before = now.copy();
        now.settings[1] = mostSkips;
        int velocity = closeNow();
        int became = path < 0 ? velocity : now.lines.get(path).became;
        now = before;
        return became;
    }

    int wouldBe() {
        return ifClosed(now.settings[1], -1);
    }

    int wouldBecome(int path) {
        return noPath(path) ? BAD_INDEX : ifClosed(now.settings[1], path);
    }

    int skipsNeeded() {
        for (int most = 0; most <= 5; most++) {
            boolean hasOutlier = false;
            for (int path = 0; path < now.lines.size(); path++) {
                hasOutlier |= ifClosed(most, path) == 2;
            }
            if (!hasOutlier) {
                return most;
            }
        }
        return NONE;
    }
}
