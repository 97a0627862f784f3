/**
 * A desk for the attitude of a craft that is turned by wheels: it keeps their state, lets time pass,
 * and tells what is, why a wish was not met, and what would be.
 */
public final class WheelDesk {
    /** An argument is not allowed, or there is no such thing. */
    public static final int BAD = -2000001;
    /** The call is not possible now. */
    public static final int STATE = -2000002;
    /** There is no room. */
    public static final int FULL = -2000003;
    /** There is none. */
    public static final int NONE = -2000009;

    private static final long ERROR = -4611686018427387905L;

    private static final int AXES = 3;
    private static final int MOST_WHEELS = 6;
    private static final int MOST_KEPT = 4;
    private static final int MOST_REASONS = 3;

    private static final int MOST_DIRECTION = 9;
    private static final int MOST_MOMENTUM = 1000000;
    private static final int MOST_TORQUE = 100000;
    private static final int MOST_STRIKE = 100000;
    private static final int MOST_BOUND = 1000000;
    private static final int MOST_TICKS = 200;
    private static final int MOST_TIME = 50000;
    private static final int MOST_ARRIVAL = 500;
    private static final int MOST_GRAVE_TICKS = 100;

    private static final int INERTIA = 0;
    private static final int TARGET = 1;
    private static final int FIELD = 2;
    private static final int DISTURBANCE = 3;
    private static final int GIVEN = 4;
    private static final int[] LEAST_GIVEN = {1, -1000000, -100, -1000};
    private static final int[] GREATEST_GIVEN = {1000, 1000000, 100, 1000};

    private static final int GAIN_P = 0;
    private static final int GAIN_D = 1;
    private static final int RATE_LIMIT = 2;
    private static final int TORQUE_LIMIT = 3;
    private static final int MAGNET_LIMIT = 4;
    private static final int SETTINGS = 5;
    private static final int[] LEAST_SETTING = {0, 0, 1, 1, 0};
    private static final int[] GREATEST_SETTING = {1000, 1000, 10000, 100000, 10000};

    private static final int WHEEL_NUMBERS = 8;
    private static final int AXIS_NUMBERS = 10;

    private static final int REASON_MET = 0;
    private static final int REASON_NO_SPAN = 1;
    private static final int REASON_NOT_AS_WISHED = 2;
    private static final int REASON_MOMENTUM = 3;
    private static final int REASON_TORQUE = 4;
    private static final int REASON_FAILED_WHEEL = 10;
    private static final int REASON_WHEEL = 20;

    private static final int FIRST_PRINT = 173;

    private final Craft craft;
    private final Craft trial;
    private final Sharing sharing;
    private final Magnets magnets;
    private final History history;

    public WheelDesk() {
        craft = new Craft();
        trial = new Craft();
        sharing = new Sharing();
        magnets = new Magnets();
        history = new History();
    }

    // ---- wheels

    public int addWheel(int x, int y, int z, int momentum, int torque) {
        if (!isDirection(x, y, z) || !isWithin(momentum, 1, MOST_MOMENTUM)
                || !isWithin(torque, 1, MOST_TORQUE)) {
            return BAD;
        }
        int number = craft.wheelCount;
        if (number >= MOST_WHEELS) {
            return FULL;
        }
        history.keep(craft);
        craft.wheelRow[number].start(x, y, z, momentum, torque);
        craft.wheelCount = number + 1;
        return number;
    }

    public int fail(int wheel, boolean fails) {
        if (!isWheel(wheel)) {
            return BAD;
        }
        history.keep(craft);
        Wheel changed = craft.wheelRow[wheel];
        int before = changed.failed ? 1 : 0;
        changed.failed = fails;
        return before;
    }

    public int setMost(int wheel, boolean torque, int value) {
        if (!isWheel(wheel) || !isWithin(value, 1, torque ? MOST_TORQUE : MOST_MOMENTUM)) {
            return BAD;
        }
        history.keep(craft);
        Wheel changed = craft.wheelRow[wheel];
        int before = torque ? changed.mostTorque : changed.mostMomentum;
        if (torque) {
            changed.mostTorque = value;
        } else {
            changed.mostMomentum = value;
        }
        return before;
    }

    public int wheel(int wheel, int what) {
        if (!isWheel(wheel) || !isWithin(what, 0, WHEEL_NUMBERS - 1)) {
            return BAD;
        }
        return craft.wheelRow[wheel].number(what);
    }

    public int wheels() {
        return craft.wheelCount;
    }

    // ---- settings

    public int setAxis(int axis, int what, int value) {
        if (!isAxis(axis) || !isWithin(what, 0, GIVEN - 1)
                || !isWithin(value, LEAST_GIVEN[what], GREATEST_GIVEN[what])) {
            return BAD;
        }
        history.keep(craft);
        int before = craft.given[what][axis];
        craft.given[what][axis] = value;
        return before;
    }

    public int set(int what, int value) {
        if (!isWithin(what, 0, SETTINGS - 1)
                || !isWithin(value, LEAST_SETTING[what], GREATEST_SETTING[what])) {
            return BAD;
        }
        history.keep(craft);
        int before = craft.settings[what];
        craft.settings[what] = value;
        return before;
    }

    public int setting(int what) {
        return isWithin(what, 0, SETTINGS - 1) ? craft.settings[what] : BAD;
    }

    public long strike(int axis, int by) {
        if (!isAxis(axis) || !isWithin(by, -MOST_STRIKE, MOST_STRIKE)) {
            return ERROR;
        }
        history.keep(craft);
        craft.pushFromOutside(axis, by);
        return craft.rate(axis);
    }

    // ---- time

    public int tick(int ticks) {
        if (!isWithin(ticks, 1, MOST_TICKS)) {
            return BAD;
        }
        if (craft.now + ticks > MOST_TIME) {
            return STATE;
        }
        history.keep(craft);
        sharing.measure(craft, NONE);
        int met = 0;
        for (int i = 0; i < ticks; i++) {
            passOne(craft);
            met += craft.isMet() ? 1 : 0;
        }
        return met;
    }

    public int time() {
        return craft.now;
    }

    // ---- what is told

    public long axis(int axis, int what) {
        if (!isAxis(axis) || !isWithin(what, 0, AXIS_NUMBERS - 1)) {
            return ERROR;
        }
        return craft.number(axis, what);
    }

    public long span() {
        sharing.measure(craft, NONE);
        return sharing.determinant;
    }

    public long wish(int wheel, int t0, int t1, int t2) {
        if (!isWheel(wheel) || !isTorque(t0) || !isTorque(t1) || !isTorque(t2)) {
            return ERROR;
        }
        Wheel asked = craft.wheelRow[wheel];
        sharing.measure(craft, NONE);
        if (asked.failed || !sharing.spans()) {
            return ERROR;
        }
        sharing.aim(t0, t1, t2);
        return sharing.wishOf(asked);
    }

    public int why(int depth) {
        if (depth < 0) {
            return BAD;
        }
        return depth < craft.reasonCount ? craft.reasons[depth] : NONE;
    }

    public float fullness() {
        float fullest = 0f;
        for (int k = 0; k < craft.wheelCount; k++) {
            float full = craft.wheelRow[k].fullPart();
            fullest = full > fullest ? full : fullest;
        }
        return fullest;
    }

    // ---- what would be

    public int arrives(int bound) {
        if (!isWithin(bound, 0, MOST_BOUND)) {
            return BAD;
        }
        trial.become(craft);
        sharing.measure(trial, NONE);
        for (int ticks = 0; ticks <= MOST_ARRIVAL; ticks++) {
            if (trial.isOnTarget(bound)) {
                return ticks;
            }
            passOne(trial);
        }
        return NONE;
    }

    public int spare() {
        int spared = 0;
        for (int k = 0; k < craft.wheelCount; k++) {
            sharing.measure(craft, k);
            if (!craft.wheelRow[k].failed && sharing.spans()) {
                spared |= 1 << k;
            }
        }
        return spared;
    }

    public int gravest(int ticks) {
        if (!isWithin(ticks, 1, MOST_GRAVE_TICKS)) {
            return BAD;
        }
        int gravest = NONE;
        long greatest = 0;
        for (int k = 0; k < craft.wheelCount; k++) {
            if (craft.wheelRow[k].failed) {
                continue;
            }
            long off = offWithout(k, ticks);
            if (gravest == NONE || off > greatest) {
                gravest = k;
                greatest = off;
            }
        }
        return gravest;
    }

    // ---- history

    public int undo() {
        return history.giveBack(craft);
    }

    public long fingerprint() {
        long print = mixed(FIRST_PRINT, time());
        for (int what = 0; what < SETTINGS; what++) {
            print = mixed(print, setting(what));
        }
        for (int axis = 0; axis < AXES; axis++) {
            for (int what = 0; what < AXIS_NUMBERS; what++) {
                print = mixed(print, axis(axis, what));
            }
        }
        print = mixed(print, wheels());
        for (int k = 0; k < craft.wheelCount; k++) {
            for (int what = 0; what < WHEEL_NUMBERS; what++) {
                print = mixed(print, wheel(k, what));
            }
        }
        print = mixed(print, span());
        for (int depth = 0; depth < craft.reasonCount; depth++) {
            print = mixed(print, why(depth));
        }
        return print;
    }

    private static long mixed(long print, long number) {
        return 31 * print + number;
    }

    // ---- arguments

    private static boolean isWithin(int value, int least, int greatest) {
        return value >= least && value <= greatest;
    }

    private static boolean isAxis(int axis) {
        return isWithin(axis, 0, AXES - 1);
    }

    private static boolean isTorque(int torque) {
        return isWithin(torque, -MOST_TORQUE, MOST_TORQUE);
    }

    private static boolean isDirection(int x, int y, int z) {
        return isWithin(x, -MOST_DIRECTION, MOST_DIRECTION)
                && isWithin(y, -MOST_DIRECTION, MOST_DIRECTION)
                && isWithin(z, -MOST_DIRECTION, MOST_DIRECTION)
                && (x != 0 || y != 0 || z != 0);
    }

    private boolean isWheel(int wheel) {
        return isWithin(wheel, 0, craft.wheelCount - 1);
    }

    // ---- numbers

    private static long limited(long value, long least, long greatest) {
        if (value < least) {
            return least;
        }
        return value > greatest ? greatest : value;
    }

    // The divisor is tested here, so that no division can throw.
    private static long quotient(long value, long divisor) {
        return divisor > 0 ? Math.floorDiv(value, divisor) : 0;
    }

    private static int axisAfter(int axis, int steps) {
        return (axis + steps) % AXES;
    }

    // ---- motion

    // The sharing must have measured the craft: this is not done here, as no wheel fails while time passes.
    private void passOne(Craft moved) {
        moved.now++;
        moved.findWish();
        sharing.share(moved);
        magnets.letGo(moved);
        moved.disturb();
        moved.turn();
    }

    private long offWithout(int wheel, int ticks) {
        trial.become(craft);
        trial.wheelRow[wheel].failed = true;
        sharing.measure(trial, NONE);
        for (int i = 0; i < ticks; i++) {
            passOne(trial);
        }
        return trial.offTarget();
    }

    /** One wheel: what it is, and what it got in the latest tick. */
    private static final class Wheel {
        final int[] direction = new int[AXES];
        int momentum;
        int mostMomentum;
        int mostTorque;
        boolean failed;
        int got;

        void start(int x, int y, int z, int greatestMomentum, int greatestTorque) {
            direction[0] = x;
            direction[1] = y;
            direction[2] = z;
            momentum = 0;
            mostMomentum = greatestMomentum;
            mostTorque = greatestTorque;
            failed = false;
            got = 0;
        }

        void become(Wheel other) {
            System.arraycopy(other.direction, 0, direction, 0, AXES);
            momentum = other.momentum;
            mostMomentum = other.mostMomentum;
            mostTorque = other.mostTorque;
            failed = other.failed;
            got = other.got;
        }

        int number(int what) {
            switch (what) {
                case 0:
                case 1:
                case 2:
                    return direction[what];
                case 3:
                    return momentum;
                case 4:
                    return mostMomentum;
                case 5:
                    return mostTorque;
                case 6:
                    return failed ? 1 : 0;
                default:
                    return got;
            }
        }

        long allowedByTorque(long wished) {
            return limited(wished, -mostTorque, mostTorque);
        }

        // 0 is always within these limits: a momentum beyond the greatest one is not forced back.
        long allowedByMomentum(long torque) {
            long down = Math.min(0, -mostMomentum - momentum);
            long up = Math.max(0, mostMomentum - momentum);
            return limited(torque, down, up);
        }

        float fullPart() {
            float greatest = mostMomentum > 0 ? (float) mostMomentum : 1f;
            return (float) Math.abs(momentum) / greatest;
        }
    }

    /** The whole state: a desk, a step of its history, or a trial is one of these. */
    private static final class Craft {
        int now;
        final int[] settings = new int[SETTINGS];
        final int[][] given = new int[GIVEN][AXES];
        final long[] angle = new long[AXES];
        final long[] momentum = new long[AXES];
        final long[] outside = new long[AXES];
        final long[] wished = new long[AXES];
        final Wheel[] wheelRow = new Wheel[MOST_WHEELS];
        int wheelCount;
        final int[] reasons = new int[MOST_REASONS];
        int reasonCount;

        Craft() {
            settings[GAIN_P] = 10;
            settings[GAIN_D] = 60;
            settings[RATE_LIMIT] = 500;
            settings[TORQUE_LIMIT] = 2000;
            for (int i = 0; i < AXES; i++) {
                given[INERTIA][i] = 100;
            }
            for (int k = 0; k < MOST_WHEELS; k++) {
                wheelRow[k] = new Wheel();
            }
            reasons[0] = REASON_MET;
            reasonCount = 1;
        }

        void become(Craft other) {
            now = other.now;
            System.arraycopy(other.settings, 0, settings, 0, SETTINGS);
            for (int what = 0; what < GIVEN; what++) {
                System.arraycopy(other.given[what], 0, given[what], 0, AXES);
            }
            System.arraycopy(other.angle, 0, angle, 0, AXES);
            System.arraycopy(other.momentum, 0, momentum, 0, AXES);
            System.arraycopy(other.outside, 0, outside, 0, AXES);
            System.arraycopy(other.wished, 0, wished, 0, AXES);
            wheelCount = other.wheelCount;
            for (int k = 0; k < MOST_WHEELS; k++) {
                wheelRow[k].become(other.wheelRow[k]);
            }
            System.arraycopy(other.reasons, 0, reasons, 0, MOST_REASONS);
            reasonCount = other.reasonCount;
        }

        long number(int axis, int what) {
            switch (what) {
                case 0:
                    return angle[axis];
                case 1:
                    return momentum[axis];
                case 2:
                    return rate(axis);
                case 3:
                    return momentum[axis] + wheelMomentum(axis);
                case 4:
                    return outside[axis];
                case 9:
                    return wished[axis];
                default:
                    // 5 to 8 are told in the order in which setAxis() takes them.
                    return what >= 5 && what < 5 + GIVEN ? given[what - 5][axis] : ERROR;
            }
        }

        long rate(int axis) {
            return quotient(momentum[axis], given[INERTIA][axis]);
        }

        long wheelMomentum(int axis) {
            long sum = 0;
            for (int k = 0; k < wheelCount; k++) {
                sum += (long) wheelRow[k].direction[axis] * wheelRow[k].momentum;
            }
            return sum;
        }

        long aside(int axis) {
            return Math.abs(given[TARGET][axis] - angle[axis]);
        }

        long offTarget() {
            long sum = 0;
            for (int i = 0; i < AXES; i++) {
                sum += aside(i);
            }
            return sum;
        }

        boolean isOnTarget(int bound) {
            for (int i = 0; i < AXES; i++) {
                if (aside(i) > bound || Math.abs(rate(i)) > 1) {
                    return false;
                }
            }
            return true;
        }

        boolean isMet() {
            return reasons[0] == REASON_MET;
        }

        void findWish() {
            long rateLimit = settings[RATE_LIMIT];
            long torqueLimit = settings[TORQUE_LIMIT];
            for (int i = 0; i < AXES; i++) {
                long drive = settings[GAIN_P] * (given[TARGET][i] - angle[i]);
                long wanted = limited(quotient(drive, 100), -rateLimit, rateLimit);
                long torque = settings[GAIN_D] * (wanted - rate(i));
                wished[i] = limited(torque, -torqueLimit, torqueLimit);
            }
        }

        void pushFromOutside(int axis, long by) {
            momentum[axis] += by;
            outside[axis] += by;
        }

        void disturb() {
            for (int i = 0; i < AXES; i++) {
                pushFromOutside(i, given[DISTURBANCE][i]);
            }
        }

        void turn() {
            for (int i = 0; i < AXES; i++) {
                angle[i] += rate(i);
            }
        }

        void tellMet() {
            reasons[0] = REASON_MET;
            reasonCount = 1;
        }

        void tellNoSpan() {
            reasons[0] = REASON_NO_SPAN;
            reasonCount = 1;
            for (int k = 0; k < wheelCount && reasonCount == 1; k++) {
                if (wheelRow[k].failed) {
                    reasons[1] = REASON_FAILED_WHEEL + k;
                    reasonCount = 2;
                }
            }
        }

        void tellLimited(int wheel, boolean byTorque) {
            reasons[0] = REASON_NOT_AS_WISHED;
            reasons[1] = REASON_WHEEL + wheel;
            reasons[2] = byTorque ? REASON_TORQUE : REASON_MOMENTUM;
            reasonCount = 3;
        }
    }

    /** How wheels share a wish: their matrix's cofactors and determinant, and the wish brought through them. */
    private static final class Sharing {
        final long[][] matrix = new long[AXES][AXES];
        final long[][] cofactor = new long[AXES][AXES];
        final long[] aimed = new long[AXES];
        long determinant;

        /** Takes the wheels that have not failed, but for one that is left out (NONE: no such one). */
        void measure(Craft craft, int leftOut) {
            for (int i = 0; i < AXES; i++) {
                for (int j = 0; j < AXES; j++) {
                    matrix[i][j] = 0;
                }
            }
            for (int k = 0; k < craft.wheelCount; k++) {
                if (k != leftOut && !craft.wheelRow[k].failed) {
                    addProducts(craft.wheelRow[k].direction);
                }
            }
            findCofactors();
            determinant = 0;
            for (int j = 0; j < AXES; j++) {
                determinant += matrix[0][j] * cofactor[0][j];
            }
        }

        private void addProducts(int[] direction) {
            for (int i = 0; i < AXES; i++) {
                for (int j = 0; j < AXES; j++) {
                    matrix[i][j] += direction[i] * direction[j];
                }
            }
        }

        // Going around the axes gives each cofactor its sign.
        private void findCofactors() {
            for (int i = 0; i < AXES; i++) {
                int i1 = axisAfter(i, 1);
                int i2 = axisAfter(i, 2);
                for (int j = 0; j < AXES; j++) {
                    int j1 = axisAfter(j, 1);
                    int j2 = axisAfter(j, 2);
                    cofactor[i][j] = matrix[i1][j1] * matrix[i2][j2] - matrix[i1][j2] * matrix[i2][j1];
                }
            }
        }

        boolean spans() {
            return determinant > 0;
        }

        void aim(long t0, long t1, long t2) {
            for (int i = 0; i < AXES; i++) {
                aimed[i] = cofactor[i][0] * t0 + cofactor[i][1] * t1 + cofactor[i][2] * t2;
            }
        }

        long wishOf(Wheel wheel) {
            long sum = 0;
            for (int i = 0; i < AXES; i++) {
                sum += wheel.direction[i] * aimed[i];
            }
            // NEAREST(-sum, D), with the divisor tested
            return spans() ? Math.floorDiv(determinant - 2 * sum, 2 * determinant) : 0;
        }

        void share(Craft craft) {
            for (int k = 0; k < craft.wheelCount; k++) {
                craft.wheelRow[k].got = 0;
            }
            if (!spans()) {
                craft.tellNoSpan();
                return;
            }
            craft.tellMet();
            aim(craft.wished[0], craft.wished[1], craft.wished[2]);
            for (int k = 0; k < craft.wheelCount; k++) {
                if (!craft.wheelRow[k].failed) {
                    give(craft, k);
                }
            }
        }

        private void give(Craft craft, int number) {
            Wheel wheel = craft.wheelRow[number];
            long wished = wishOf(wheel);
            long allowed = wheel.allowedByTorque(wished);
            long torque = wheel.allowedByMomentum(allowed);
            wheel.got = (int) torque;
            wheel.momentum += wheel.got;
            for (int i = 0; i < AXES; i++) {
                craft.momentum[i] -= wheel.direction[i] * torque;
            }
            if (torque != wished && craft.isMet()) {
                craft.tellLimited(number, torque == allowed);
            }
        }
    }

    /** The magnets, which let the momentum of the wheels go into the field. */
    private static final class Magnets {
        final long[] held = new long[AXES];
        final long[] moment = new long[AXES];

        void letGo(Craft craft) {
            int[] field = craft.given[FIELD];
            long most = craft.settings[MAGNET_LIMIT];
            for (int i = 0; i < AXES; i++) {
                held[i] = craft.wheelMomentum(i);
            }
            for (int i = 0; i < AXES; i++) {
                moment[i] = limited(quotient(crossed(held, field, i), 1000), -most, most);
            }
            for (int i = 0; i < AXES; i++) {
                craft.pushFromOutside(i, quotient(crossed(moment, field, i), 100));
            }
        }

        private static long crossed(long[] left, int[] right, int axis) {
            int next = axisAfter(axis, 1);
            int last = axisAfter(axis, 2);
            return left[next] * right[last] - left[last] * right[next];
        }
    }

    /** The states before the latest acts; its rows are made once and used again. */
    private static final class History {
        final Craft[] states = new Craft[MOST_KEPT];
        int kept;

        History() {
            for (int i = 0; i < MOST_KEPT; i++) {
                states[i] = new Craft();
            }
        }

        void keep(Craft craft) {
            if (kept >= MOST_KEPT) {
                dropOldest();
            }
            states[kept].become(craft);
            kept++;
        }

        private void dropOldest() {
            Craft oldest = states[0];
            for (int i = 1; i < MOST_KEPT; i++) {
                states[i - 1] = states[i];
            }
            states[MOST_KEPT - 1] = oldest;
            kept = MOST_KEPT - 1;
        }

        int giveBack(Craft craft) {
            if (kept <= 0) {
                return NONE;
            }
            kept--;
            craft.become(states[kept]);
            return kept;
        }
    }
}
