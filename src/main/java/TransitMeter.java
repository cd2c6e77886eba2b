/** An ultrasonic flowmeter that measures transit times with and against the flow on several paths. */
public final class TransitMeter {
    public static final int BAD_INDEX = -2000000001;
    public static final int BAD_VALUE = -2000000002;
    public static final int NOT_POSSIBLE = -2000000003;
    public static final int FULL = -2000000004;
    public static final int NONE = -2000000005;
    public static final int MISSING = 0, WEAK = 1, OUTLIER = 2, CORRECTED = 3, GOOD = 4;

    private static final int MAX_PATHS = 4;
    private static final int MAX_POINTS = 6;
    private static final int MAX_ROUNDS = 12;
    private static final int MAX_STATES = 5;
    private static final int MAX_BYTES = 100;
    private static final int SLOTS = 2;
    private static final int SETTINGS = 5;
    private static final int LEAST_QUALITY = 0;
    private static final int MOST_SKIPS = 1;
    private static final int VOTE = 2;
    private static final int AREA = 3;
    private static final int INTERVAL = 4;
    private static final int[] SETTING_LOW = {0, 0, 1, 1, 1};
    private static final int[] SETTING_HIGH = {100, 5, 100, 1000000, 1000};
    private static final int MAX_SKIPS = 5;
    private static final int MIN_TIME = 1000;
    private static final int MAX_TIME = 9999999;
    private static final int MIN_NET_TIME = 1000;
    private static final int MAX_QUALITY = 100;
    private static final int MAX_VELOCITY = 100000;
    private static final int MAX_RATIO = 5000;
    private static final int MISSES_TO_FAIL = 3;
    private static final int NO_FAULT = 0;

    private final State present = new State();
    private final History history = new History();
    private final State[] slots = {new State(), new State()};
    private final boolean[] slotFilled = new boolean[SLOTS];
    private final ActReader reader = new ActReader();
    private final Text text = reader.text;
    private final Judgement judgement = new Judgement();

    /** Creates a meter without paths and points, with the settings as at first. */
    public TransitMeter() {
    }

    // ---- paths, profile, settings

    /** Adds a path and returns its number. */
    public int addPath(int length, int axial, int weight, int period, int delay) {
        boolean fits = isWithin(length, 50, 2000) && isWithin(axial, 10, length) && isWithin(weight, 1, 1000)
                && isWithin(period, 100, 10000) && isWithin(delay, 0, 5000);
        if (!fits) {
            return BAD_VALUE;
        }
        int number = present.pathCount;
        if (number < 0 || number >= MAX_PATHS) {
            return FULL;
        }
        history.push(present);
        present.paths[number].begin(length, axial, weight, period, delay);
        present.pathCount = number + 1;
        return number;
    }

    /** Sets the weight of a path and returns the weight before. */
    public int setWeight(int path, int weight) {
        Path changed = present.pathAt(path);
        if (changed == null) {
            return BAD_INDEX;
        }
        if (!isWithin(weight, 1, 1000)) {
            return BAD_VALUE;
        }
        history.push(present);
        int before = changed.weight;
        changed.weight = weight;
        return before;
    }

    /** Sets a point of the profile table and returns the number of points then. */
    public int setPoint(int velocity, int factor) {
        if (!isWithin(velocity, 0, MAX_VELOCITY) || !isWithin(factor, 500, 1500)) {
            return BAD_VALUE;
        }
        Profile profile = present.profile;
        if (profile.find(velocity) < 0 && profile.count >= MAX_POINTS) {
            return FULL;
        }
        history.push(present);
        profile.put(velocity, factor);
        return profile.count;
    }

    /** Removes a point of the profile table and returns the factor that it had. */
    public int removePoint(int velocity) {
        if (!isWithin(velocity, 0, MAX_VELOCITY)) {
            return BAD_VALUE;
        }
        int index = present.profile.find(velocity);
        if (index < 0) {
            return NOT_POSSIBLE;
        }
        history.push(present);
        return present.profile.take(index);
    }

    /** Sets a setting and returns the value before. */
    public int set(int setting, int value) {
        if (setting < 0 || setting >= SETTINGS) {
            return BAD_INDEX;
        }
        if (!isWithin(value, SETTING_LOW[setting], SETTING_HIGH[setting])) {
            return BAD_VALUE;
        }
        history.push(present);
        int before = present.settings[setting];
        present.settings[setting] = value;
        return before;
    }

    // ---- measuring

    /** Tells the shot of a path and returns the number of paths that have one in this round then. */
    public int shot(int path, int forward, int backward, int quality) {
        int fault = shotFault(path, forward, backward, quality);
        if (fault != NO_FAULT) {
            return fault;
        }
        history.push(present);
        return takeShot(path, forward, backward, quality);
    }

    /** Closes the round and returns its velocity. */
    public int close() {
        if (present.pathCount == 0) {
            return NOT_POSSIBLE;
        }
        history.push(present);
        return closeRound();
    }

    /** Swaps the transducers, or swaps them back, and returns 1 if they are swapped then. */
    public int swap() {
        history.push(present);
        return swapTransducers();
    }

    /** Forgets the reference times and the ratio of a path and returns 1 if it had reference times. */
    public int forget(int path) {
        Path forgetful = present.pathAt(path);
        if (forgetful == null) {
            return BAD_INDEX;
        }
        history.push(present);
        int had = asNumber(forgetful.hasReference);
        forgetful.hasReference = false;
        forgetful.hasRatio = false;
        return had;
    }

    // ---- the text

    /** Appends a byte to the text and returns its length then. */
    public int append(int b) {
        if (!isWithin(b, 32, 126)) {
            return BAD_VALUE;
        }
        if (text.length >= MAX_BYTES) {
            return FULL;
        }
        text.put(b);
        return text.length;
    }

    /** Empties the text and returns the length that it had. */
    public int clearText() {
        int before = text.length;
        text.length = 0;
        return before;
    }

    /** Returns the fault position of the text, or NONE. */
    public int faultPosition() {
        reader.begin();
        for (int acts = 0; acts < MAX_BYTES && reader.hasMore(); acts++) {
            reader.readAct();
        }
        return reader.faulty ? reader.position : NONE;
    }

    /** Carries out the acts of the text and returns how many were carried out without an error. */
    public int run() {
        if (faultPosition() != NONE) {
            return NOT_POSSIBLE;
        }
        history.push(present);
        reader.begin();
        int done = 0;
        for (int acts = 0; acts < MAX_BYTES && reader.hasMore(); acts++) {
            reader.readAct();
            if (isError(carryOutAct())) {
                return done;
            }
            done++;
        }
        return done;
    }

    // ---- history and slots

    /** Goes back to the latest state of the history and returns how many are left in it. */
    public int undo() {
        if (history.count == 0) {
            return NOT_POSSIBLE;
        }
        history.pop(present);
        return history.count;
    }

    /** Keeps a copy of the present state in a slot and returns the number of rounds closed so far. */
    public int save(int slot) {
        if (slot < 0 || slot >= SLOTS) {
            return BAD_INDEX;
        }
        slots[slot].copyFrom(present);
        slotFilled[slot] = true;
        return present.closed;
    }

    /** Makes the state of a slot the present one and returns the number of rounds closed so far in it. */
    public int restore(int slot) {
        if (slot < 0 || slot >= SLOTS) {
            return BAD_INDEX;
        }
        if (!slotFilled[slot]) {
            return NOT_POSSIBLE;
        }
        history.push(present);
        present.copyFrom(slots[slot]);
        return present.closed;
    }

    // ---- looking

    /** Returns a property of a path. */
    public int path(int path, int property) {
        Path seen = present.pathAt(path);
        if (seen == null) {
            return BAD_INDEX;
        }
        return seen.property(property);
    }

    /** Returns a property of the shot of a path in this round. */
    public int told(int path, int property) {
        Path seen = present.pathAt(path);
        if (seen == null) {
            return BAD_INDEX;
        }
        if (!isWithin(property, 0, 2)) {
            return BAD_VALUE;
        }
        Shot shot = seen.shot;
        if (!shot.isTold) {
            return NONE;
        }
        return property == 0 ? shot.forward : property == 1 ? shot.backward : shot.quality;
    }

    /** Returns the speed of sound of a path, from its reference times. */
    public long sound(int path) {
        Path seen = present.pathAt(path);
        if (seen == null) {
            return BAD_INDEX;
        }
        return seen.hasReference ? seen.speedOfSound() : NONE;
    }

    /** Returns the factor for a velocity. */
    public int factor(int velocity) {
        if (!isWithin(velocity, -MAX_VELOCITY, MAX_VELOCITY)) {
            return BAD_VALUE;
        }
        return present.profile.factorFor(velocity);
    }

    /** Returns a property of a round that is kept. */
    public int round(int back, int property) {
        Round kept = present.rounds.latest(back);
        if (kept == null) {
            return BAD_INDEX;
        }
        switch (property) {
            case 0: return kept.velocity;
            case 1: return kept.mean;
            case 2: return kept.accepted;
            case 3: return kept.corrected;
            case 4: return kept.substituted;
            case 5: return kept.trueShifts;
            default: return BAD_VALUE;
        }
    }

    /** Returns the forward volume, the backward volume, or the first less the second. */
    public long volume(int which) {
        switch (which) {
            case 0: return present.forwardVolume;
            case 1: return present.backwardVolume;
            case 2: return present.forwardVolume - present.backwardVolume;
            default: return BAD_VALUE;
        }
    }

    /** Returns a statistic of the velocities of the rounds that are kept and were not lost. */
    public int statistic(int which) {
        if (!isWithin(which, 0, 4)) {
            return BAD_VALUE;
        }
        Rounds rounds = present.rounds;
        int measured = rounds.measuredCount();
        if (which == 0) {
            return measured;
        }
        if (measured == 0) {
            return NONE;
        }
        switch (which) {
            case 1: return rounds.ranked(0);
            case 2: return rounds.ranked(measured - 1);
            case 3: return rounds.average();
            default: return (rounds.ranked((measured - 1) / 2) + rounds.ranked(measured / 2)) / 2;
        }
    }

    /** Returns the path that has a place in the order of trust. */
    public int trust(int place) {
        if (place < 0) {
            return BAD_VALUE;
        }
        for (int number = 0; number < MAX_PATHS && number < present.pathCount; number++) {
            if (present.placeInTrust(number) == place) {
                return number;
            }
        }
        return NONE;
    }

    /** Returns one of the numbers that tell about the whole meter. */
    public int total(int property) {
        switch (property) {
            case 0: return present.pathCount;
            case 1: return present.profile.count;
            case 2: return present.toldShots();
            case 3: return present.closed;
            case 4: return present.lost;
            case 5: return present.rounds.count;
            case 6: return asNumber(present.swapped);
            case 7: return present.failingPaths();
            case 8: return history.count;
            case 9: return text.length;
            default: break;
        }
        int setting = isWithin(property, 10, 14) ? property - 10 : -1;
        if (setting < 0 || setting >= SETTINGS) {
            return BAD_VALUE;
        }
        return present.settings[setting];
    }

    // ---- what if, which changes nothing

    /** Returns the velocity of a path from two times. */
    public int velocity(int path, int forward, int backward) {
        Path asked = present.pathAt(path);
        if (asked == null) {
            return BAD_INDEX;
        }
        if (!asked.canTake(forward) || !asked.canTake(backward)) {
            return BAD_VALUE;
        }
        return asked.velocityFrom(forward, backward);
    }

    /** Returns the ideal time of a path, delay included. */
    public int ideal(int path, int sound, int flow, boolean backward) {
        Path asked = present.pathAt(path);
        if (asked == null) {
            return BAD_INDEX;
        }
        if (!isWithin(sound, 300, 3000) || !isWithin(flow, -20000, 20000)) {
            return BAD_VALUE;
        }
        return asked.idealTime(sound, backward ? -flow : flow);
    }

    /** Tells the velocity that the round would have if it were closed now. */
    public int wouldBe() {
        if (present.pathCount == 0) {
            return NOT_POSSIBLE;
        }
        judgement.judge(present, present.settings[MOST_SKIPS]);
        return judgement.velocity;
    }

    /** Tells what would become of a path if the round were closed now. */
    public int wouldBecome(int path) {
        if (present.pathAt(path) == null) {
            return BAD_INDEX;
        }
        judgement.judge(present, present.settings[MOST_SKIPS]);
        return judgement.outcomeOf(path);
    }

    /** Returns the smallest most skips with which no path would be an outlier, or NONE. */
    public int skipsNeeded() {
        for (int skips = 0; skips <= MAX_SKIPS; skips++) {
            judgement.judge(present, skips);
            if (!judgement.hasOutlier()) {
                return skips;
            }
        }
        return NONE;
    }

    // ---- acts, which do not record by themselves

    private int shotFault(int path, int forward, int backward, int quality) {
        Path shooting = present.pathAt(path);
        if (shooting == null) {
            return BAD_INDEX;
        }
        boolean fits = shooting.canTake(forward) && shooting.canTake(backward) && isWithin(quality, 0, MAX_QUALITY);
        return fits ? NO_FAULT : BAD_VALUE;
    }

    private int takeShot(int path, int forward, int backward, int quality) {
        int fault = shotFault(path, forward, backward, quality);
        if (fault != NO_FAULT) {
            return fault;
        }
        present.tellShot(path, forward, backward, quality);
        return present.toldShots();
    }

    private int closeRound() {
        if (present.pathCount == 0) {
            return NOT_POSSIBLE;
        }
        judgement.judge(present, present.settings[MOST_SKIPS]);
        judgement.settle(present);
        return judgement.velocity;
    }

    private int swapTransducers() {
        present.exchangeTimes();
        present.swapped = !present.swapped;
        return asNumber(present.swapped);
    }

    private int carryOutAct() {
        switch (reader.act) {
            case 's': return takeShot(reader.path, reader.forward, reader.backward, reader.quality);
            case 'c': return closeRound();
            default: return swapTransducers();
        }
    }

    // ---- small helps

    private static boolean isError(int answer) {
        return answer == BAD_INDEX || answer == BAD_VALUE || answer == NOT_POSSIBLE || answer == FULL;
    }

    private static boolean isWithin(int value, int low, int high) {
        return value >= low && value <= high;
    }

    private static boolean contains(int pathSet, int number) {
        return (pathSet >> number & 1) != 0;
    }

    private static int asNumber(boolean holds) {
        return holds ? 1 : 0;
    }

    /** A quotient rounded towards zero; no divisor of this program is 0, but none is used untested. */
    private static long quotient(long dividend, long divisor) {
        return divisor == 0 ? 0 : dividend / divisor;
    }

    private static int limited(long value, int limit) {
        return value > limit ? limit : value < -limit ? -limit : (int) value;
    }

    /** The nearest whole number of periods in a difference, of two as near the one nearer to zero. */
    private static int wholePeriods(int difference, int period) {
        if (period <= 0) {
            return 0;
        }
        int size = Math.abs(difference);
        int periods = size / period;
        if (size % period * 2 > period) {
            periods++;
        }
        return difference < 0 ? -periods : periods;
    }

    /** The shot of a path in the present round. */
    private static final class Shot {
        boolean isTold;
        int forward;
        int backward;
        int quality;

        void copyFrom(Shot other) {
            isTold = other.isTold;
            forward = other.forward;
            backward = other.backward;
            quality = other.quality;
        }

        void exchangeTimes() {
            int kept = forward;
            forward = backward;
            backward = kept;
        }
    }

    /** A path: its make, its reference times and ratio, and how it fared in the rounds so far. */
    private static final class Path {
        int length;
        int axial;
        int weight;
        int period;
        int delay;
        boolean hasReference;
        int forward;
        int backward;
        boolean hasRatio;
        int ratio;
        int outcome = NONE;
        int velocity = NONE;
        int misses;
        int corrections;
        int outliers;
        final Shot shot = new Shot();

        void begin(int newLength, int newAxial, int newWeight, int newPeriod, int newDelay) {
            length = newLength;
            axial = newAxial;
            weight = newWeight;
            period = newPeriod;
            delay = newDelay;
        }

        void copyFrom(Path other) {
            begin(other.length, other.axial, other.weight, other.period, other.delay);
            hasReference = other.hasReference;
            forward = other.forward;
            backward = other.backward;
            hasRatio = other.hasRatio;
            ratio = other.ratio;
            outcome = other.outcome;
            velocity = other.velocity;
            misses = other.misses;
            corrections = other.corrections;
            outliers = other.outliers;
            shot.copyFrom(other.shot);
        }

        int property(int property) {
            switch (property) {
                case 0: return length;
                case 1: return axial;
                case 2: return weight;
                case 3: return period;
                case 4: return delay;
                case 5: return hasReference ? forward : NONE;
                case 6: return hasReference ? backward : NONE;
                case 7: return hasRatio ? ratio : NONE;
                case 8: return outcome;
                case 9: return velocity;
                case 10: return misses;
                case 11: return corrections;
                case 12: return outliers;
                case 13: return asNumber(fails());
                default: return BAD_VALUE;
            }
        }

        boolean fails() {
            return misses >= MISSES_TO_FAIL;
        }

        boolean isLateEnough(int time) {
            return time - delay >= MIN_NET_TIME;
        }

        boolean canTake(int time) {
            return isWithin(time, MIN_TIME, MAX_TIME) && isLateEnough(time);
        }

        int velocityFrom(int forwardTime, int backwardTime) {
            long f = forwardTime - delay;
            long b = backwardTime - delay;
            long scale = quotient((long) length * length * 500000, axial);
            return limited(quotient(scale * (b - f), f * b / 1000), MAX_VELOCITY);
        }

        long speedOfSound() {
            long f = forward - delay;
            long b = backward - delay;
            return quotient(length * 500000L * (f + b), f * b / 1000);
        }

        int idealTime(int sound, int flow) {
            long speed = sound * 1000L + quotient((long) flow * axial, length);
            return (int) quotient(length * 1000000000L, speed) + delay;
        }

        void exchangeTimes() {
            int kept = forward;
            forward = backward;
            backward = kept;
            shot.exchangeTimes();
        }

        boolean isTrustedBefore(Path other, boolean hasSmallerNumber) {
            if (fails() != other.fails()) {
                return other.fails();
            }
            if (misses != other.misses) {
                return misses < other.misses;
            }
            int skips = corrections + outliers;
            int otherSkips = other.corrections + other.outliers;
            if (skips != otherSkips) {
                return skips < otherSkips;
            }
            if (weight != other.weight) {
                return weight > other.weight;
            }
            return hasSmallerNumber;
        }
    }

    /** The profile table, its points in the order of their velocities. */
    private static final class Profile {
        final int[] velocities = new int[MAX_POINTS];
        final int[] factors = new int[MAX_POINTS];
        int count;

        void copyFrom(Profile other) {
            System.arraycopy(other.velocities, 0, velocities, 0, MAX_POINTS);
            System.arraycopy(other.factors, 0, factors, 0, MAX_POINTS);
            count = other.count;
        }

        int find(int velocity) {
            for (int i = 0; i < MAX_POINTS && i < count; i++) {
                if (velocities[i] == velocity) {
                    return i;
                }
            }
            return -1;
        }

        void put(int velocity, int factor) {
            int same = find(velocity);
            if (same >= 0 && same < MAX_POINTS) {
                factors[same] = factor;
                return;
            }
            if (count < 0 || count >= MAX_POINTS) {
                return;
            }
            int place = count;
            for (int i = count; i > 0 && velocities[i - 1] > velocity; i--) {
                velocities[i] = velocities[i - 1];
                factors[i] = factors[i - 1];
                place = i - 1;
            }
            velocities[place] = velocity;
            factors[place] = factor;
            count++;
        }

        int take(int index) {
            if (index < 0 || index >= count || index >= MAX_POINTS) {
                return NOT_POSSIBLE;
            }
            int factor = factors[index];
            for (int i = index + 1; i < MAX_POINTS && i < count; i++) {
                velocities[i - 1] = velocities[i];
                factors[i - 1] = factors[i];
            }
            count--;
            return factor;
        }

        /** With a point at v itself, its own factor is what the last quotient answers. */
        int factorFor(int velocity) {
            int v = Math.abs(velocity);
            int above = 0;
            while (above < MAX_POINTS && above < count && velocities[above] < v) {
                above++;
            }
            if (count == 0) {
                return 1000;
            }
            if (above == 0) {
                return factors[0];
            }
            int below = above - 1;
            if (above >= MAX_POINTS || above >= count) {
                return factors[below];
            }
            long p = velocities[below];
            long q = velocities[above];
            return (int) quotient(factors[below] * (q - v) + factors[above] * (v - p), q - p);
        }
    }

    /** A round that was closed; a lost one has the velocity and the mean NONE. */
    private static final class Round {
        int velocity;
        int mean;
        int accepted;
        int corrected;
        int substituted;
        int trueShifts;

        void copyFrom(Round other) {
            velocity = other.velocity;
            mean = other.mean;
            accepted = other.accepted;
            corrected = other.corrected;
            substituted = other.substituted;
            trueShifts = other.trueShifts;
        }
    }

    /** The latest rounds, the latest one first. */
    private static final class Rounds {
        final Round[] kept = new Round[MAX_ROUNDS];
        int count;

        Rounds() {
            for (int i = 0; i < MAX_ROUNDS; i++) {
                kept[i] = new Round();
            }
        }

        void copyFrom(Rounds other) {
            for (int i = 0; i < MAX_ROUNDS; i++) {
                kept[i].copyFrom(other.kept[i]);
            }
            count = other.count;
        }

        Round latest(int back) {
            return back >= 0 && back < count && back < MAX_ROUNDS ? kept[back] : null;
        }

        /** Moves all rounds on by one and returns the new first one, to be filled in. */
        Round startLatest() {
            Round reused = kept[MAX_ROUNDS - 1];
            for (int i = MAX_ROUNDS - 1; i > 0; i--) {
                kept[i] = kept[i - 1];
            }
            kept[0] = reused;
            count = Math.min(count + 1, MAX_ROUNDS);
            return reused;
        }

        private boolean isMeasured(int index) {
            return index >= 0 && index < count && index < MAX_ROUNDS && kept[index].velocity != NONE;
        }

        int measuredCount() {
            int found = 0;
            for (int i = 0; i < MAX_ROUNDS; i++) {
                found += asNumber(isMeasured(i));
            }
            return found;
        }

        private int countUpTo(int velocity) {
            int found = 0;
            for (int i = 0; i < MAX_ROUNDS; i++) {
                if (isMeasured(i) && kept[i].velocity <= velocity) {
                    found++;
                }
            }
            return found;
        }

        /** The velocity with a rank among the measured ones, counted from 0 for the least. */
        int ranked(int rank) {
            for (int i = 0; i < MAX_ROUNDS; i++) {
                if (isMeasured(i)) {
                    int velocity = kept[i].velocity;
                    if (countUpTo(velocity - 1) <= rank && rank < countUpTo(velocity)) {
                        return velocity;
                    }
                }
            }
            return NONE;
        }

        int average() {
            long sum = 0;
            for (int i = 0; i < MAX_ROUNDS; i++) {
                if (isMeasured(i)) {
                    sum += kept[i].velocity;
                }
            }
            return (int) quotient(sum, measuredCount());
        }
    }

    /** All that undo and the slots keep. Paths that were not added yet have no shot, reference times or ratio. */
    private static final class State {
        final Path[] paths = new Path[MAX_PATHS];
        int pathCount;
        final Profile profile = new Profile();
        final int[] settings = {40, 2, 60, 10000, 100};
        boolean swapped;
        final Rounds rounds = new Rounds();
        int closed;
        int lost;
        long forwardVolume;
        long backwardVolume;

        State() {
            for (int i = 0; i < MAX_PATHS; i++) {
                paths[i] = new Path();
            }
        }

        void copyFrom(State other) {
            for (int i = 0; i < MAX_PATHS; i++) {
                paths[i].copyFrom(other.paths[i]);
            }
            pathCount = other.pathCount;
            profile.copyFrom(other.profile);
            System.arraycopy(other.settings, 0, settings, 0, SETTINGS);
            swapped = other.swapped;
            rounds.copyFrom(other.rounds);
            closed = other.closed;
            lost = other.lost;
            forwardVolume = other.forwardVolume;
            backwardVolume = other.backwardVolume;
        }

        Path pathAt(int number) {
            return number >= 0 && number < pathCount && number < MAX_PATHS ? paths[number] : null;
        }

        void tellShot(int number, int forward, int backward, int quality) {
            Path shooting = pathAt(number);
            if (shooting == null) {
                return;
            }
            Shot shot = shooting.shot;
            shot.isTold = true;
            shot.forward = swapped ? backward : forward;
            shot.backward = swapped ? forward : backward;
            shot.quality = quality;
        }

        void exchangeTimes() {
            for (Path each : paths) {
                each.exchangeTimes();
            }
        }

        int toldShots() {
            int found = 0;
            for (Path each : paths) {
                found += asNumber(each.shot.isTold);
            }
            return found;
        }

        int failingPaths() {
            int found = 0;
            for (Path each : paths) {
                found += asNumber(each.fails());
            }
            return found;
        }

        int placeInTrust(int number) {
            Path asked = pathAt(number);
            int place = 0;
            for (int i = 0; i < MAX_PATHS && i < pathCount && asked != null; i++) {
                if (i != number && paths[i].isTrustedBefore(asked, i < number)) {
                    place++;
                }
            }
            return place;
        }

        void countVolume(int velocity) {
            long volume = (long) velocity * settings[AREA] * settings[INTERVAL] / 1000;
            if (volume > 0) {
                forwardVolume += volume;
            } else {
                backwardVolume -= volume;
            }
        }
    }

    /** The states to which undo can go back, the latest one last. */
    private static final class History {
        final State[] states = new State[MAX_STATES];
        int count;

        History() {
            for (int i = 0; i < MAX_STATES; i++) {
                states[i] = new State();
            }
        }

        void push(State state) {
            if (count >= MAX_STATES) {
                dropOldest();
            }
            if (count >= 0 && count < MAX_STATES) {
                states[count].copyFrom(state);
                count++;
            }
        }

        private void dropOldest() {
            State reused = states[0];
            for (int i = 1; i < MAX_STATES; i++) {
                states[i - 1] = states[i];
            }
            states[MAX_STATES - 1] = reused;
            count = MAX_STATES - 1;
        }

        void pop(State into) {
            if (count > 0 && count <= MAX_STATES) {
                count--;
                into.copyFrom(states[count]);
            }
        }
    }

    /** The text that tells acts. */
    private static final class Text {
        final int[] bytes = new int[MAX_BYTES];
        int length;

        void put(int b) {
            if (length >= 0 && length < MAX_BYTES) {
                bytes[length] = b;
                length++;
            }
        }

        /** The byte at an index, or -1 where there is none. */
        int at(int index) {
            return index >= 0 && index < length && index < MAX_BYTES ? bytes[index] : -1;
        }
    }

    /** Reads the acts of its text one after the other; with a fault it stays at the fault position. */
    private static final class ActReader {
        private static final int MAX_DIGITS = 7;
        final Text text = new Text();
        int position;
        boolean faulty;
        int act;
        int path;
        int forward;
        int backward;
        int quality;

        void begin() {
            position = 0;
            faulty = false;
        }

        boolean hasMore() {
            return !faulty && position < text.length;
        }

        void readAct() {
            act = text.at(position);
            if (act != 's' && act != 'c' && act != 'w') {
                faulty = true;
                return;
            }
            position++;
            if (act == 's') {
                path = readNumber(0, MAX_PATHS - 1);
                readSign('f');
                forward = readNumber(MIN_TIME, MAX_TIME);
                readSign('b');
                backward = readNumber(MIN_TIME, MAX_TIME);
                readSign('q');
                quality = readNumber(0, MAX_QUALITY);
            }
            readSign(';');
        }

        private void readSign(int due) {
            if (!faulty && text.at(position) == due) {
                position++;
            } else {
                faulty = true;
            }
        }

        private int readNumber(int low, int high) {
            int most = text.at(position) == '0' ? 1 : MAX_DIGITS;
            int digits = 0;
            int value = 0;
            while (digits < most && isWithin(text.at(position + digits), '0', '9')) {
                value = value * 10 + text.at(position + digits) - '0';
                digits++;
            }
            if (faulty || digits == 0 || !isWithin(value, low, high)) {
                faulty = true;
                return 0;
            }
            position += digits;
            return value;
        }
    }

    /** What closing the round of a state does; judging changes nothing of the state, settling does. */
    private static final class Judgement {
        final boolean[] votes = new boolean[MAX_PATHS];
        final int[] forwardShifts = new int[MAX_PATHS];
        final int[] backwardShifts = new int[MAX_PATHS];
        final int[] outcomes = new int[MAX_PATHS];
        final int[] velocities = new int[MAX_PATHS];
        int trueShifts;
        int accepted;
        int corrected;
        int substituted;
        int mean;
        int velocity;

        void judge(State state, int mostSkips) {
            findShifts(state);
            trueShifts = clearTrueShifts(state, forwardShifts) + clearTrueShifts(state, backwardShifts);
            decideOutcomes(state, mostSkips);
            averageVelocities(state);
        }

        int outcomeOf(int number) {
            return number >= 0 && number < MAX_PATHS ? outcomes[number] : MISSING;
        }

        boolean hasOutlier() {
            for (int outcome : outcomes) {
                if (outcome == OUTLIER) {
                    return true;
                }
            }
            return false;
        }

        private void findShifts(State state) {
            for (int i = 0; i < MAX_PATHS; i++) {
                Path path = state.paths[i];
                Shot shot = path.shot;
                votes[i] = shot.isTold && shot.quality >= state.settings[LEAST_QUALITY] && path.hasReference;
                forwardShifts[i] = votes[i] ? wholePeriods(shot.forward - path.forward, path.period) : 0;
                backwardShifts[i] = votes[i] ? wholePeriods(shot.backward - path.backward, path.period) : 0;
            }
        }

        /** Makes the shifts that the vote finds true 0 and returns how many different ones there were. */
        private int clearTrueShifts(State state, int[] shifts) {
            int all = votingWeight(state);
            int found = 0;
            for (int i = 0; i < MAX_PATHS && i < shifts.length; i++) {
                int shift = shifts[i];
                if (shift != 0 && weightOf(state, shifts, shift) * 100 >= state.settings[VOTE] * all) {
                    clearShift(shifts, shift);
                    found++;
                }
            }
            return found;
        }

        private int votingWeight(State state) {
            int weight = 0;
            for (int i = 0; i < MAX_PATHS; i++) {
                weight += votes[i] ? state.paths[i].weight : 0;
            }
            return weight;
        }

        private static int weightOf(State state, int[] shifts, int shift) {
            int weight = 0;
            for (int i = 0; i < MAX_PATHS && i < shifts.length; i++) {
                weight += shifts[i] == shift ? state.paths[i].weight : 0;
            }
            return weight;
        }

        private static void clearShift(int[] shifts, int shift) {
            for (int i = 0; i < shifts.length; i++) {
                if (shifts[i] == shift) {
                    shifts[i] = 0;
                }
            }
        }

        private void decideOutcomes(State state, int mostSkips) {
            accepted = 0;
            corrected = 0;
            for (int i = 0; i < MAX_PATHS; i++) {
                Path path = state.paths[i];
                Shot shot = path.shot;
                int forward = shot.forward - forwardShifts[i] * path.period;
                int backward = shot.backward - backwardShifts[i] * path.period;
                int skips = Math.max(Math.abs(forwardShifts[i]), Math.abs(backwardShifts[i]));
                velocities[i] = NONE;
                if (!shot.isTold) {
                    outcomes[i] = MISSING;
                } else if (shot.quality < state.settings[LEAST_QUALITY]) {
                    outcomes[i] = WEAK;
                } else if (skips > mostSkips || !path.isLateEnough(forward) || !path.isLateEnough(backward)) {
                    outcomes[i] = OUTLIER;
                } else {
                    outcomes[i] = skips == 0 ? GOOD : CORRECTED;
                    velocities[i] = path.velocityFrom(forward, backward);
                    accepted |= 1 << i;
                    corrected |= skips == 0 ? 0 : 1 << i;
                }
            }
        }

        private void averageVelocities(State state) {
            substituted = 0;
            mean = NONE;
            velocity = NONE;
            if (accepted != 0) {
                substituteFrom(state, weightedMean(state, accepted));
                mean = weightedMean(state, accepted | substituted);
                velocity = (int) ((long) mean * state.profile.factorFor(mean) / 1000);
            }
        }

        private void substituteFrom(State state, int firstMean) {
            for (int i = 0; i < MAX_PATHS; i++) {
                Path path = state.paths[i];
                if (!contains(accepted, i) && path.hasRatio) {
                    velocities[i] = (int) ((long) firstMean * path.ratio / 1000);
                    substituted |= 1 << i;
                }
            }
        }

        private int weightedMean(State state, int pathSet) {
            long sum = 0;
            long weights = 0;
            for (int i = 0; i < MAX_PATHS; i++) {
                if (contains(pathSet, i)) {
                    sum += (long) state.paths[i].weight * velocities[i];
                    weights += state.paths[i].weight;
                }
            }
            return (int) quotient(sum, weights);
        }

        /** Does to the state what was judged of it. */
        void settle(State state) {
            for (int i = 0; i < MAX_PATHS && i < state.pathCount; i++) {
                settlePath(state.paths[i], i);
            }
            for (Path each : state.paths) {
                each.shot.isTold = false;
            }
            fillIn(state.rounds.startLatest());
            state.closed++;
            if (accepted == 0) {
                state.lost++;
            } else {
                state.countVolume(velocity);
            }
        }

        private void settlePath(Path path, int i) {
            if (i < 0 || i >= MAX_PATHS) {
                return;
            }
            path.outcome = outcomes[i];
            path.velocity = velocities[i];
            path.corrections += asNumber(outcomes[i] == CORRECTED);
            path.outliers += asNumber(outcomes[i] == OUTLIER);
            if (!contains(accepted, i)) {
                path.misses++;
                return;
            }
            path.misses = 0;
            path.hasReference = true;
            path.forward = path.shot.forward - forwardShifts[i] * path.period;
            path.backward = path.shot.backward - backwardShifts[i] * path.period;
            if (mean != 0) {
                path.hasRatio = true;
                path.ratio = limited(quotient(velocities[i] * 1000L, mean), MAX_RATIO);
            }
        }

        private void fillIn(Round latest) {
            latest.velocity = velocity;
            latest.mean = mean;
            latest.accepted = accepted;
            latest.corrected = corrected;
            latest.substituted = substituted;
            latest.trueShifts = trueShifts;
        }
    }
}
