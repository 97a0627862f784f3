import java.util.function.Supplier;

/**
 * Every argument of every call: its least and its greatest value are taken, the first one beyond each of them, and
 * the farthest ones, are refused; on a new desk, on one with an empty history, on one with a full history, and on
 * one with six wheels.
 */
public final class BoundsTest {
    private static final int BAD = WheelDesk.BAD;
    private static final long ERROR = Check.ERROR;
    private static final int[] LEAST_OF_AXIS = {1, -1000000, -100, -1000};
    private static final int[] GREATEST_OF_AXIS = {1000, 1000000, 100, 1000};
    private static final int[] LEAST_SETTING = {0, 0, 1, 1, 0};
    private static final int[] GREATEST_SETTING = {1000, 1000, 10000, 100000, 10000};

    private interface Call {
        long on(WheelDesk desk, int value);
    }

    private final String desk;
    private final Supplier<WheelDesk> maker;
    private final int wheels;

    private BoundsTest(String desk, Supplier<WheelDesk> maker) {
        this.desk = desk;
        this.maker = maker;
        wheels = maker.get().wheels();
    }

    public static void main(String[] args) {
        BoundsTest[] desks = {
            new BoundsTest("new", WheelDesk::new),
            new BoundsTest("empty history", Desks::emptied),
            new BoundsTest("full history", Desks::busy),
            new BoundsTest("six wheels", Desks::full),
        };
        for (BoundsTest each : desks) {
            each.newWheel();
            each.wheelActs();
            each.wheelTold();
            each.settings();
            each.told();
            each.motions();
        }
        Check.end();
    }

    private void act(String call, int least, int greatest, long error, Call made) {
        for (int value : new int[] {least, greatest}) {
            String name = desk + ": " + call + " with " + value;
            long answer = made.on(maker.get(), value);
            Check.due(name + " is an error", answer == error ? 1 : 0, 0);
            Check.acts(name, maker, d -> made.on(d, value), answer);
        }
        beyond(call, least, greatest, error, made);
    }

    private void tell(String call, int least, int greatest, long error, Call made) {
        for (int value : new int[] {least, greatest}) {
            String name = desk + ": " + call + " with " + value;
            long answer = made.on(maker.get(), value);
            Check.due(name + " is an error", answer == error ? 1 : 0, 0);
            Check.tells(name, maker, d -> made.on(d, value), answer);
        }
        beyond(call, least, greatest, error, made);
    }

    private void beyond(String call, int least, int greatest, long error, Call made) {
        int[] values = {least - 1, greatest + 1, Integer.MIN_VALUE, Integer.MAX_VALUE};
        for (int value : values) {
            Check.refuses(desk + ": " + call + " with " + value, maker, d -> made.on(d, value), error);
        }
    }

    private void newWheel() {
        if (wheels == 6) {
            return;
        }
        act("addWheel(x, ..)", -9, 9, BAD, (d, v) -> d.addWheel(v, 0, 0, 5, 5));
        act("addWheel(.., y, ..)", -9, 9, BAD, (d, v) -> d.addWheel(0, v, 0, 5, 5));
        act("addWheel(.., z, ..)", -9, 9, BAD, (d, v) -> d.addWheel(0, 0, v, 5, 5));
        act("addWheel(.., momentum, ..)", 1, 1000000, BAD, (d, v) -> d.addWheel(1, 1, 1, v, 5));
        act("addWheel(.., torque)", 1, 100000, BAD, (d, v) -> d.addWheel(1, 1, 1, 5, v));
        Check.refuses(desk + ": addWheel(0, 0, 0, ..)", maker, d -> d.addWheel(0, 0, 0, 5, 5), BAD);
    }

    private void wheelActs() {
        if (wheels == 0) {
            Check.refuses("fail without wheels", maker, d -> d.fail(0, true), BAD);
            Check.refuses("fail without wheels", maker, d -> d.fail(0, false), BAD);
            Check.refuses("setMost without wheels", maker, d -> d.setMost(0, false, 5), BAD);
            Check.refuses("setMost without wheels", maker, d -> d.setMost(0, true, 5), BAD);
            return;
        }
        int last = wheels - 1;
        act("fail(wheel, true)", 0, last, BAD, (d, v) -> d.fail(v, true));
        act("fail(wheel, false)", 0, last, BAD, (d, v) -> d.fail(v, false));
        act("setMost(wheel, false, ..)", 0, last, BAD, (d, v) -> d.setMost(v, false, 5));
        act("setMost(wheel, true, ..)", 0, last, BAD, (d, v) -> d.setMost(v, true, 5));
        act("setMost(.., false, value)", 1, 1000000, BAD, (d, v) -> d.setMost(last, false, v));
        act("setMost(.., true, value)", 1, 100000, BAD, (d, v) -> d.setMost(last, true, v));
    }

    private void wheelTold() {
        if (wheels == 0) {
            for (int what = 0; what < 8; what++) {
                int asked = what;
                Check.refuses("wheel(0, " + what + ") without wheels", maker, d -> d.wheel(0, asked), BAD);
            }
            Check.refuses("wish without wheels", maker, d -> d.wish(0, 0, 0, 0), ERROR);
            return;
        }
        for (int what = 0; what < 8; what++) {
            int asked = what;
            tell("wheel(wheel, " + what + ")", 0, wheels - 1, BAD, (d, v) -> d.wheel(v, asked));
        }
        tell("wheel(.., what)", 0, 7, BAD, (d, v) -> d.wheel(0, v));
        tell("wish(.., t0, ..)", -100000, 100000, ERROR, (d, v) -> d.wish(0, v, 2, 3));
        tell("wish(.., t1, ..)", -100000, 100000, ERROR, (d, v) -> d.wish(0, 1, v, 3));
        tell("wish(.., t2)", -100000, 100000, ERROR, (d, v) -> d.wish(0, 1, 2, v));
        if (maker.get().wheel(wheels - 1, 6) == 0) {
            tell("wish(wheel, ..)", 0, wheels - 1, ERROR, (d, v) -> d.wish(v, 1, 2, 3));
        } else {
            beyond("wish(wheel, ..)", 0, wheels - 1, ERROR, (d, v) -> d.wish(v, 1, 2, 3));
        }
    }

    private void settings() {
        for (int what = 0; what < 4; what++) {
            int set = what;
            int least = LEAST_OF_AXIS[what];
            int greatest = GREATEST_OF_AXIS[what];
            act("setAxis(axis, " + what + ", ..)", 0, 2, BAD, (d, v) -> d.setAxis(v, set, 1));
            for (int axis = 0; axis < 3; axis++) {
                int at = axis;
                act("setAxis(" + axis + ", " + what + ", value)", least, greatest, BAD,
                        (d, v) -> d.setAxis(at, set, v));
            }
        }
        act("setAxis(.., what, ..)", 0, 3, BAD, (d, v) -> d.setAxis(0, v, 1));
        for (int what = 0; what < 5; what++) {
            int set = what;
            act("set(" + what + ", value)", LEAST_SETTING[what], GREATEST_SETTING[what], BAD,
                    (d, v) -> d.set(set, v));
        }
        act("set(what, ..)", 0, 4, BAD, (d, v) -> d.set(v, 1));
        tell("setting(what)", 0, 4, BAD, (d, v) -> d.setting(v));
        act("strike(axis, ..)", 0, 2, ERROR, (d, v) -> d.strike(v, 1));
        for (int axis = 0; axis < 3; axis++) {
            int at = axis;
            act("strike(" + axis + ", by)", -100000, 100000, ERROR, (d, v) -> d.strike(at, v));
        }
    }

    private void told() {
        for (int what = 0; what < 10; what++) {
            int asked = what;
            tell("axis(axis, " + what + ")", 0, 2, ERROR, (d, v) -> d.axis(v, asked));
        }
        for (int axis = 0; axis < 3; axis++) {
            int at = axis;
            tell("axis(" + axis + ", what)", 0, 9, ERROR, (d, v) -> d.axis(at, v));
        }
        Check.tells(desk + ": why(0)", maker, d -> d.why(0), maker.get().why(0));
        Check.refuses(desk + ": why(-1)", maker, d -> d.why(-1), BAD);
        Check.refuses(desk + ": why(least)", maker, d -> d.why(Integer.MIN_VALUE), BAD);
        Check.refuses(desk + ": why(3)", maker, d -> d.why(3), WheelDesk.NONE);
        Check.refuses(desk + ": why(greatest)", maker, d -> d.why(Integer.MAX_VALUE), WheelDesk.NONE);
    }

    private void motions() {
        act("tick(ticks)", 1, 200, BAD, (d, v) -> d.tick(v));
        tell("arrives(bound)", 0, 1000000, BAD, (d, v) -> d.arrives(v));
        tell("gravest(ticks)", 1, 100, BAD, (d, v) -> d.gravest(v));
    }
}
