import java.util.Random;

/** All promises: long runs of calls, each answer held against the model's; the seeds are fixed. */
public final class ModelTest {
    // With four calls a step at most, an object stays within the 512 calls that are promised.
    private static final int STEPS = 125;

    private final Random random;
    private final int wildness;
    private final String name;
    private final WheelDesk desk = new WheelDesk();
    private final Model model = new Model();

    private ModelTest(long seed, int wildness) {
        random = new Random(seed);
        this.wildness = wildness;
        name = "seed " + seed;
    }

    public static void main(String[] args) {
        for (long seed = 0; seed < 600; seed++) {
            new ModelTest(seed, (int) (seed % 4)).run();
        }
        new ModelTest(1000, 3).runToTheEnd();
        new ModelTest(1001, 3).runToTheEnd();
        Check.end();
    }

    private void run() {
        for (int i = 0; i < STEPS; i++) {
            step(random.nextInt(29));
            Check.due(name + " step " + i + ": fingerprint()", desk.fingerprint(), model.fingerprint());
        }
    }

    /** The greatest numbers that there are, as long as there is time. */
    private void runToTheEnd() {
        for (int i = 0; i < 3; i++) {
            wheel(random.nextInt(3) - 1, i == 0 ? 9 : 0, i == 1 ? 9 : 0, i == 2 ? -9 : 0);
        }
        for (int axis = 0; axis < 3; axis++) {
            axisSet(axis, 0, 1);
            axisSet(axis, 1, axis == 0 ? -1000000 : 1000000);
            axisSet(axis, 2, 100 - 90 * axis);
            axisSet(axis, 3, axis == 1 ? -1000 : 1000);
        }
        int[] greatest = {1000, 1000, 10000, 100000, 10000};
        for (int what = 0; what < 5; what++) {
            Check.due(name + " set", desk.set(what, greatest[what]), model.set(what, greatest[what]));
        }
        for (int i = 0; i < 252; i++) {
            Check.due(name + " tick(200) " + i, desk.tick(200), model.tick(200));
            if (i % 5 == 1) {
                Check.due(name + " fingerprint() " + i, desk.fingerprint(), model.fingerprint());
            }
        }
        Check.due(name + " fingerprint()", desk.fingerprint(), model.fingerprint());
        Check.due(name + " time()", desk.time(), 50000);
        Check.due(name + " arrives()", desk.arrives(1000000), model.arrives(1000000));
        Check.due(name + " gravest()", desk.gravest(100), model.gravest(100));
    }

    private void wheel(int least, int x, int y, int z) {
        int momentum = least < 0 ? 1000 : 1000000;
        Check.due(name + " addWheel", desk.addWheel(x, y, z, momentum, 100000),
                model.addWheel(x, y, z, momentum, 100000));
    }

    private void axisSet(int axis, int what, int value) {
        Check.due(name + " setAxis", desk.setAxis(axis, what, value), model.setAxis(axis, what, value));
    }

    /** A number from the range, now and then at its ends or one beyond; the wild runs like its ends. */
    private int pick(int least, int greatest) {
        int kind = random.nextInt(40);
        if (kind == 0) {
            return random.nextBoolean() ? least - 1 : greatest + 1;
        }
        if (kind < 4 + wildness * 6) {
            return random.nextBoolean() ? least : greatest;
        }
        if (kind < 30) {
            int middle = Math.max(least, Math.min(greatest, 0));
            int reach = Math.max(1, (greatest - least) / (kind % 2 == 0 ? 10 : 300));
            return Math.max(least, Math.min(greatest, middle + random.nextInt(2 * reach + 1) - reach));
        }
        return least + random.nextInt(greatest - least + 1);
    }

    private int pickWheel() {
        return random.nextInt(30) == 0 ? random.nextInt(9) - 1 : random.nextInt(Math.max(1, model.wheels()));
    }

    private void step(int call) {
        if (call < 4) {
            wheelCall(call);
        } else if (call < 12) {
            settingCall(call);
        } else if (call < 22) {
            tellingCall(call);
        } else {
            motionCall(call);
        }
    }

    private void wheelCall(int call) {
        int wheel = pickWheel();
        boolean flag = random.nextInt(4) == 0;
        if (call < 2) {
            int[] d = {pick(-9, 9), pick(-9, 9), pick(-9, 9)};
            int momentum = pick(1, random.nextBoolean() ? 1000 : 1000000);
            int torque = pick(1, random.nextBoolean() ? 200 : 100000);
            Check.due(name + " addWheel", desk.addWheel(d[0], d[1], d[2], momentum, torque),
                    model.addWheel(d[0], d[1], d[2], momentum, torque));
        } else if (call == 2) {
            Check.due(name + " fail", desk.fail(wheel, flag), model.fail(wheel, flag));
        } else {
            int value = pick(1, flag ? 100000 : 1000000);
            Check.due(name + " setMost", desk.setMost(wheel, flag, value), model.setMost(wheel, flag, value));
        }
    }

    private void settingCall(int call) {
        int[][] ranges = {{1, 1000}, {-1000000, 1000000}, {-100, 100}, {-1000, 1000}};
        int[][] settings = {{0, 1000}, {0, 1000}, {1, 10000}, {1, 100000}, {0, 10000}};
        if (call < 7) {
            int what = random.nextInt(4);
            axisSet(pick(0, 2), what, pick(ranges[what][0], ranges[what][1]));
        } else if (call < 9) {
            int what = random.nextInt(5);
            int value = pick(settings[what][0], settings[what][1]);
            Check.due(name + " set", desk.set(what, value), model.set(what, value));
        } else if (call == 9) {
            int what = pick(0, 4);
            int other = pick(-1, 4);
            Check.due(name + " setting", desk.setting(what), model.setting(what));
            Check.due(name + " set", desk.set(what, 50), model.set(what, 50));
            Check.due(name + " setAxis", desk.setAxis(other, what, 1), model.setAxis(other, what, 1));
        } else {
            int axis = pick(0, 2);
            int by = pick(-100000, 100000);
            Check.due(name + " strike", desk.strike(axis, by), model.strike(axis, by));
        }
    }

    private void tellingCall(int call) {
        int wheel = pickWheel();
        int what = pick(0, 9);
        switch (call) {
            case 12:
                Check.due(name + " wheel", desk.wheel(wheel, what), model.wheel(wheel, what));
                break;
            case 13:
                int axis = pick(0, 2);
                Check.due(name + " axis", desk.axis(axis, what), model.axis(axis, what));
                break;
            case 14:
                Check.due(name + " span", desk.span(), model.span());
                break;
            case 15:
            case 16:
                int[] t = {pick(-100000, 100000), pick(-100000, 100000), pick(-100000, 100000)};
                Check.due(name + " wish", desk.wish(wheel, t[0], t[1], t[2]), model.wish(wheel, t[0], t[1], t[2]));
                break;
            case 17:
                int depth = pick(0, 3);
                Check.due(name + " why", desk.why(depth), model.why(depth));
                break;
            case 18:
                Check.dueFloat(name + " fullness", desk.fullness(), model.fullness());
                break;
            case 19:
                Check.due(name + " spare", desk.spare(), model.spare());
                break;
            case 20:
                Check.due(name + " undo", desk.undo(), model.undo());
                break;
            default:
                Check.due(name + " time", desk.time(), model.time());
                Check.due(name + " wheels", desk.wheels(), model.wheels());
        }
    }

    private void motionCall(int call) {
        if (call < 25) {
            int ticks = call == 22 ? pick(1, 200) : pick(1, 12);
            Check.due(name + " tick", desk.tick(ticks), model.tick(ticks));
        } else if (call == 25 && random.nextInt(4) == 0) {
            int bound = pick(0, 1000000);
            Check.due(name + " arrives", desk.arrives(bound), model.arrives(bound));
        } else if (call == 26 && random.nextInt(4) == 0) {
            int ticks = pick(1, 100);
            Check.due(name + " gravest", desk.gravest(ticks), model.gravest(ticks));
        } else {
            Check.due(name + " tick", desk.tick(1), model.tick(1));
        }
    }
}
