import java.math.BigDecimal;
import java.math.BigInteger;
import java.math.RoundingMode;
import java.util.ArrayList;
import java.util.List;

/**
 * The document once more, in numbers of any size and without a thought for speed or room: ModelTest holds
 * WheelDesk against it, so that a sum that overflows or a row that is used twice shows.
 */
final class Model {
    static final int BAD = -2000001;
    static final int STATE = -2000002;
    static final int FULL = -2000003;
    static final int NONE = -2000009;
    static final long ERROR = -4611686018427387905L;

    private static final class Wheel {
        BigInteger[] direction;
        BigInteger momentum = BigInteger.ZERO;
        int most;
        int torque;
        boolean failed;
        BigInteger got = BigInteger.ZERO;

        Wheel copy() {
            Wheel twin = new Wheel();
            twin.direction = direction.clone();
            twin.momentum = momentum;
            twin.most = most;
            twin.torque = torque;
            twin.failed = failed;
            twin.got = got;
            return twin;
        }
    }

    private static final class State {
        int time;
        int[] settings = {10, 60, 500, 2000, 0};
        int[] inertia = {100, 100, 100};
        int[] target = {0, 0, 0};
        int[] field = {0, 0, 0};
        int[] disturbance = {0, 0, 0};
        BigInteger[] angle = zeros();
        BigInteger[] momentum = zeros();
        BigInteger[] outside = zeros();
        BigInteger[] wish = zeros();
        List<Wheel> wheels = new ArrayList<>();
        List<Integer> reasons = new ArrayList<>(List.of(0));

        State copy() {
            State twin = new State();
            twin.time = time;
            twin.settings = settings.clone();
            twin.inertia = inertia.clone();
            twin.target = target.clone();
            twin.field = field.clone();
            twin.disturbance = disturbance.clone();
            twin.angle = angle.clone();
            twin.momentum = momentum.clone();
            twin.outside = outside.clone();
            twin.wish = wish.clone();
            twin.wheels = new ArrayList<>();
            for (Wheel wheel : wheels) {
                twin.wheels.add(wheel.copy());
            }
            twin.reasons = new ArrayList<>(reasons);
            return twin;
        }

        BigInteger rate(int axis) {
            return down(momentum[axis], big(inertia[axis]));
        }

        BigInteger held(int axis) {
            BigInteger sum = BigInteger.ZERO;
            for (Wheel wheel : wheels) {
                sum = sum.add(wheel.direction[axis].multiply(wheel.momentum));
            }
            return sum;
        }

        List<Wheel> working() {
            List<Wheel> some = new ArrayList<>();
            for (Wheel wheel : wheels) {
                if (!wheel.failed) {
                    some.add(wheel);
                }
            }
            return some;
        }
    }

    private State state = new State();
    private final List<State> history = new ArrayList<>();

    // ---- numbers

    private static BigInteger big(long value) {
        return BigInteger.valueOf(value);
    }

    private static BigInteger[] zeros() {
        return new BigInteger[] {BigInteger.ZERO, BigInteger.ZERO, BigInteger.ZERO};
    }

    private static BigInteger down(BigInteger value, BigInteger divisor) {
        return new BigDecimal(value).divide(new BigDecimal(divisor), 0, RoundingMode.FLOOR).toBigInteger();
    }

    private static BigInteger nearest(BigInteger a, BigInteger b) {
        return down(a.add(a).add(b), b.add(b));
    }

    private static BigInteger range(BigInteger value, long limit) {
        return value.min(big(limit)).max(big(-limit));
    }

    private static BigInteger[] cross(BigInteger[] a, int[] b) {
        return new BigInteger[] {
            a[1].multiply(big(b[2])).subtract(a[2].multiply(big(b[1]))),
            a[2].multiply(big(b[0])).subtract(a[0].multiply(big(b[2]))),
            a[0].multiply(big(b[1])).subtract(a[1].multiply(big(b[0]))),
        };
    }

    // ---- sharing

    private static BigInteger[][] matrix(List<Wheel> wheels) {
        BigInteger[][] m = {zeros(), zeros(), zeros()};
        for (Wheel wheel : wheels) {
            for (int i = 0; i < 3; i++) {
                for (int j = 0; j < 3; j++) {
                    m[i][j] = m[i][j].add(wheel.direction[i].multiply(wheel.direction[j]));
                }
            }
        }
        return m;
    }

    private static BigInteger determinant(BigInteger[][] m) {
        int[][] orders = {{0, 1, 2}, {1, 2, 0}, {2, 0, 1}, {0, 2, 1}, {1, 0, 2}, {2, 1, 0}};
        BigInteger sum = BigInteger.ZERO;
        for (int n = 0; n < 6; n++) {
            BigInteger product = m[0][orders[n][0]].multiply(m[1][orders[n][1]]).multiply(m[2][orders[n][2]]);
            sum = n < 3 ? sum.add(product) : sum.subtract(product);
        }
        return sum;
    }

    private static BigInteger cofactor(BigInteger[][] m, int row, int column) {
        List<BigInteger> left = new ArrayList<>();
        for (int i = 0; i < 3; i++) {
            for (int j = 0; j < 3; j++) {
                if (i != row && j != column) {
                    left.add(m[i][j]);
                }
            }
        }
        BigInteger minor = left.get(0).multiply(left.get(3)).subtract(left.get(1).multiply(left.get(2)));
        return (row + column) % 2 == 0 ? minor : minor.negate();
    }

    private static BigInteger wished(List<Wheel> working, Wheel wheel, BigInteger[] t) {
        BigInteger[][] m = matrix(working);
        BigInteger sum = BigInteger.ZERO;
        for (int i = 0; i < 3; i++) {
            for (int j = 0; j < 3; j++) {
                sum = sum.add(wheel.direction[i].multiply(cofactor(m, i, j)).multiply(t[j]));
            }
        }
        return nearest(sum.negate(), determinant(m));
    }

    private static BigInteger granted(Wheel wheel, BigInteger torque) {
        BigInteger top = big(wheel.most);
        BigInteger bottom = top.negate();
        BigInteger next = wheel.momentum.add(torque);
        boolean isAbove = wheel.momentum.compareTo(top) > 0;
        boolean isBelow = wheel.momentum.compareTo(bottom) < 0;
        if (isAbove && torque.signum() > 0 || isBelow && torque.signum() < 0) {
            return BigInteger.ZERO;
        }
        if (torque.signum() > 0 && next.compareTo(top) > 0) {
            return top.subtract(wheel.momentum);
        }
        if (torque.signum() < 0 && next.compareTo(bottom) < 0) {
            return bottom.subtract(wheel.momentum);
        }
        return torque;
    }

    // ---- a tick

    private static boolean tickOne(State s) {
        s.time++;
        for (int i = 0; i < 3; i++) {
            BigInteger way = big(s.target[i]).subtract(s.angle[i]);
            BigInteger wanted = range(down(big(s.settings[0]).multiply(way), big(100)), s.settings[2]);
            s.wish[i] = range(big(s.settings[1]).multiply(wanted.subtract(s.rate(i))), s.settings[3]);
        }
        share(s);
        BigInteger[] held = {s.held(0), s.held(1), s.held(2)};
        BigInteger[] moment = cross(held, s.field);
        for (int i = 0; i < 3; i++) {
            moment[i] = range(down(moment[i], big(1000)), s.settings[4]);
        }
        BigInteger[] torque = cross(moment, s.field);
        for (int i = 0; i < 3; i++) {
            BigInteger come = down(torque[i], big(100)).add(big(s.disturbance[i]));
            s.momentum[i] = s.momentum[i].add(come);
            s.outside[i] = s.outside[i].add(come);
        }
        for (int i = 0; i < 3; i++) {
            s.angle[i] = s.angle[i].add(s.rate(i));
        }
        return s.reasons.get(0) == 0;
    }

    private static void share(State s) {
        s.reasons.clear();
        for (Wheel wheel : s.wheels) {
            wheel.got = BigInteger.ZERO;
        }
        List<Wheel> working = s.working();
        if (determinant(matrix(working)).signum() == 0) {
            s.reasons.add(1);
            for (int k = s.wheels.size() - 1; k >= 0; k--) {
                if (s.wheels.get(k).failed) {
                    s.reasons.subList(1, s.reasons.size()).clear();
                    s.reasons.add(10 + k);
                }
            }
            return;
        }
        for (int k = 0; k < s.wheels.size(); k++) {
            Wheel wheel = s.wheels.get(k);
            if (wheel.failed) {
                continue;
            }
            BigInteger wished = wished(working, wheel, s.wish);
            BigInteger byTorque = range(wished, wheel.torque);
            wheel.got = granted(wheel, byTorque);
            if (!wheel.got.equals(wished) && s.reasons.isEmpty()) {
                s.reasons.addAll(List.of(2, 20 + k, wheel.got.equals(byTorque) ? 4 : 3));
            }
        }
        if (s.reasons.isEmpty()) {
            s.reasons.add(0);
        }
        for (Wheel wheel : working) {
            wheel.momentum = wheel.momentum.add(wheel.got);
            for (int i = 0; i < 3; i++) {
                s.momentum[i] = s.momentum[i].subtract(wheel.direction[i].multiply(wheel.got));
            }
        }
    }

    // ---- the face

    private static boolean in(int value, int least, int greatest) {
        return least <= value && value <= greatest;
    }

    private boolean isWheel(int wheel) {
        return in(wheel, 0, state.wheels.size() - 1);
    }

    private void act() {
        history.add(state.copy());
        if (history.size() > 4) {
            history.remove(0);
        }
    }

    int addWheel(int x, int y, int z, int momentum, int torque) {
        if (!in(x, -9, 9) || !in(y, -9, 9) || !in(z, -9, 9) || x == 0 && y == 0 && z == 0
                || !in(momentum, 1, 1000000) || !in(torque, 1, 100000)) {
            return BAD;
        }
        if (state.wheels.size() == 6) {
            return FULL;
        }
        act();
        Wheel wheel = new Wheel();
        wheel.direction = new BigInteger[] {big(x), big(y), big(z)};
        wheel.most = momentum;
        wheel.torque = torque;
        state.wheels.add(wheel);
        return state.wheels.size() - 1;
    }

    int fail(int wheel, boolean fails) {
        if (!isWheel(wheel)) {
            return BAD;
        }
        act();
        int before = state.wheels.get(wheel).failed ? 1 : 0;
        state.wheels.get(wheel).failed = fails;
        return before;
    }

    int setMost(int wheel, boolean torque, int value) {
        if (!isWheel(wheel) || !in(value, 1, torque ? 100000 : 1000000)) {
            return BAD;
        }
        act();
        Wheel set = state.wheels.get(wheel);
        int before = torque ? set.torque : set.most;
        set.torque = torque ? value : set.torque;
        set.most = torque ? set.most : value;
        return before;
    }

    int wheel(int wheel, int what) {
        if (!isWheel(wheel) || !in(what, 0, 7)) {
            return BAD;
        }
        Wheel told = state.wheels.get(wheel);
        int[] all = {told.direction[0].intValueExact(), told.direction[1].intValueExact(),
            told.direction[2].intValueExact(), told.momentum.intValueExact(), told.most, told.torque,
            told.failed ? 1 : 0, told.got.intValueExact()};
        return all[what];
    }

    int wheels() {
        return state.wheels.size();
    }

    int setAxis(int axis, int what, int value) {
        int[][] ranges = {{1, 1000}, {-1000000, 1000000}, {-100, 100}, {-1000, 1000}};
        if (!in(axis, 0, 2) || !in(what, 0, 3) || !in(value, ranges[what][0], ranges[what][1])) {
            return BAD;
        }
        act();
        int[][] rows = {state.inertia, state.target, state.field, state.disturbance};
        int before = rows[what][axis];
        rows[what][axis] = value;
        return before;
    }

    int set(int what, int value) {
        int[][] ranges = {{0, 1000}, {0, 1000}, {1, 10000}, {1, 100000}, {0, 10000}};
        if (!in(what, 0, 4) || !in(value, ranges[what][0], ranges[what][1])) {
            return BAD;
        }
        act();
        int before = state.settings[what];
        state.settings[what] = value;
        return before;
    }

    int setting(int what) {
        return in(what, 0, 4) ? state.settings[what] : BAD;
    }

    long strike(int axis, int by) {
        if (!in(axis, 0, 2) || !in(by, -100000, 100000)) {
            return ERROR;
        }
        act();
        state.momentum[axis] = state.momentum[axis].add(big(by));
        state.outside[axis] = state.outside[axis].add(big(by));
        return state.rate(axis).longValueExact();
    }

    int tick(int ticks) {
        if (!in(ticks, 1, 200)) {
            return BAD;
        }
        if (state.time + ticks > 50000) {
            return STATE;
        }
        act();
        int met = 0;
        for (int i = 0; i < ticks; i++) {
            met += tickOne(state) ? 1 : 0;
        }
        return met;
    }

    int time() {
        return state.time;
    }

    long axis(int axis, int what) {
        if (!in(axis, 0, 2) || !in(what, 0, 9)) {
            return ERROR;
        }
        BigInteger[] all = {state.angle[axis], state.momentum[axis], state.rate(axis),
            state.momentum[axis].add(state.held(axis)), state.outside[axis], big(state.inertia[axis]),
            big(state.target[axis]), big(state.field[axis]), big(state.disturbance[axis]), state.wish[axis]};
        return all[what].longValueExact();
    }

    long span() {
        return determinant(matrix(state.working())).longValueExact();
    }

    long wish(int wheel, int t0, int t1, int t2) {
        if (!isWheel(wheel) || state.wheels.get(wheel).failed || span() == 0 || !in(t0, -100000, 100000)
                || !in(t1, -100000, 100000) || !in(t2, -100000, 100000)) {
            return ERROR;
        }
        BigInteger[] t = {big(t0), big(t1), big(t2)};
        return wished(state.working(), state.wheels.get(wheel), t).longValueExact();
    }

    int why(int depth) {
        if (depth < 0) {
            return BAD;
        }
        return depth < state.reasons.size() ? state.reasons.get(depth) : NONE;
    }

    float fullness() {
        float most = 0;
        for (Wheel wheel : state.wheels) {
            most = Math.max(most, wheel.momentum.abs().floatValue() / (float) wheel.most);
        }
        return most;
    }

    int arrives(int bound) {
        if (!in(bound, 0, 1000000)) {
            return BAD;
        }
        State trial = state.copy();
        for (int ticks = 0; ticks <= 500; ticks++) {
            boolean isThere = true;
            for (int i = 0; i < 3; i++) {
                isThere &= big(trial.target[i]).subtract(trial.angle[i]).abs().compareTo(big(bound)) <= 0;
                isThere &= trial.rate(i).abs().compareTo(BigInteger.ONE) <= 0;
            }
            if (isThere) {
                return ticks;
            }
            tickOne(trial);
        }
        return NONE;
    }

    int spare() {
        int set = 0;
        for (int k = 0; k < state.wheels.size(); k++) {
            State trial = state.copy();
            trial.wheels.get(k).failed = true;
            if (!state.wheels.get(k).failed && determinant(matrix(trial.working())).signum() != 0) {
                set += 1 << k;
            }
        }
        return set;
    }

    int gravest(int ticks) {
        if (!in(ticks, 1, 100)) {
            return BAD;
        }
        int gravest = NONE;
        BigInteger greatest = big(-1);
        for (int k = 0; k < state.wheels.size(); k++) {
            if (state.wheels.get(k).failed) {
                continue;
            }
            State trial = state.copy();
            trial.wheels.get(k).failed = true;
            for (int i = 0; i < ticks; i++) {
                tickOne(trial);
            }
            BigInteger sum = BigInteger.ZERO;
            for (int i = 0; i < 3; i++) {
                sum = sum.add(big(trial.target[i]).subtract(trial.angle[i]).abs());
            }
            if (sum.compareTo(greatest) > 0) {
                gravest = k;
                greatest = sum;
            }
        }
        return gravest;
    }

    int undo() {
        if (history.isEmpty()) {
            return NONE;
        }
        state = history.remove(history.size() - 1);
        return history.size();
    }

    long fingerprint() {
        List<Long> numbers = new ArrayList<>();
        numbers.add((long) time());
        for (int what = 0; what < 5; what++) {
            numbers.add((long) setting(what));
        }
        for (int axis = 0; axis < 3; axis++) {
            for (int what = 0; what < 10; what++) {
                numbers.add(axis(axis, what));
            }
        }
        numbers.add((long) wheels());
        for (int k = 0; k < wheels(); k++) {
            for (int what = 0; what < 8; what++) {
                numbers.add((long) wheel(k, what));
            }
        }
        numbers.add(span());
        for (int reason : state.reasons) {
            numbers.add((long) reason);
        }
        BigInteger print = big(173);
        for (long number : numbers) {
            print = print.multiply(big(31)).add(big(number));
        }
        return print.longValue();
    }
}
