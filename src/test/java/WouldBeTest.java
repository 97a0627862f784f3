/** Promises 18 to 20: when the craft arrives, which wheels can be missed, and whose failure is gravest. */
public final class WouldBeTest {
    public static void main(String[] args) {
        arrives();
        arrivesRate();
        spare();
        gravest();
        gravestByDrift();
        gravestAsMade();
        Check.end();
    }

    /** A craft without wheels that turns by -1 a tick at axis 1. */
    private static WheelDesk drifting(int target) {
        WheelDesk desk = new WheelDesk();
        desk.strike(1, -100);
        desk.setAxis(1, 1, target);
        return desk;
    }

    private static void arrives() {
        Check.due("at once", drifting(0).arrives(0), 0);
        Check.due("at once within the bound", drifting(-30).arrives(30), 0);
        Check.due("one beyond the bound", drifting(-31).arrives(30), 1);
        Check.due("on the way", drifting(-31).arrives(0), 31);
        Check.due("the last tick", drifting(-500).arrives(0), 500);
        Check.due("too late", drifting(-501).arrives(0), WheelDesk.NONE);
        Check.due("just within", drifting(-501).arrives(1), 500);
        Check.due("never", drifting(1).arrives(0), WheelDesk.NONE);
        Check.due("the greatest bound", drifting(1000000).arrives(1000000), 0);
        Check.tells("arrives", Desks::busy, d -> d.arrives(1000000), Desks.busy().arrives(1000000));
        Check.tells("arrives on the way", () -> drifting(-31), d -> d.arrives(0), 31);
        Check.refuses("bound below", Desks::busy, d -> d.arrives(-1), WheelDesk.BAD);
        Check.refuses("bound above", Desks::busy, d -> d.arrives(1000001), WheelDesk.BAD);
        WheelDesk desk = Desks.threeWheels();
        desk.setAxis(0, 1, 3000);
        int ticks = desk.arrives(20);
        Check.due("it takes a while", ticks > 5 && ticks < 100 ? 1 : 0, 1);
        desk.tick(ticks - 1);
        Check.due("one tick is left", desk.arrives(20), 1);
        desk.tick(1);
        Check.due("it is there", desk.arrives(20), 0);
    }

    private static void arrivesRate() {
        for (int axis = 0; axis < 3; axis++) {
            WheelDesk desk = new WheelDesk();
            desk.strike(axis, 199);
            Check.due("a rate of 1", desk.arrives(0), 0);
            desk.strike(axis, 1);
            Check.due("a rate of 2", desk.arrives(1000000), WheelDesk.NONE);
            desk.strike(axis, -300);
            Check.due("a rate of -1", desk.arrives(0), 0);
            desk.strike(axis, -1);
            Check.due("a rate of -2", desk.arrives(1000000), WheelDesk.NONE);
            desk.setAxis(axis, 3, 20);
            Check.due("it slows down", desk.arrives(1000000), 1);
        }
    }

    private static void spare() {
        Check.tells("without wheels", WheelDesk::new, d -> d.spare(), 0);
        Check.tells("just enough", Desks::threeWheels, d -> d.spare(), 0);
        WheelDesk desk = Desks.threeWheels();
        desk.addWheel(2, 0, 0, 1, 1);
        Check.due("either one of two", desk.spare(), 0b1001);
        desk.addWheel(1, 1, 1, 1, 1);
        Check.due("every one", desk.spare(), 0b11111);
        desk.fail(1, true);
        Check.due("not a failed one", desk.spare(), 0b01001);
        desk.fail(2, true);
        Check.due("they do not span", desk.spare(), 0);
        Check.tells("six wheels", Desks::full, d -> d.spare(), 0b111111);
    }

    private static void gravest() {
        Check.due("without wheels", new WheelDesk().gravest(5), WheelDesk.NONE);
        WheelDesk desk = Desks.threeWheels();
        desk.setAxis(0, 1, 1000);
        Check.due("all alike: the smallest number", desk.gravest(100), 0);
        desk.addWheel(1, 0, 0, 1000000, 100000);
        Check.due("wheels 0 and 3 can be missed", desk.gravest(20), 1);
        desk.fail(1, true);
        Check.due("of those that have not failed", desk.gravest(20), 0);
        desk.fail(0, true);
        Check.due("not the failed ones", desk.gravest(20), 2);
        desk.fail(2, true);
        Check.due("the last one", desk.gravest(1), 3);
        desk.fail(3, true);
        Check.due("all have failed", desk.gravest(1), WheelDesk.NONE);
        Check.due("BAD is before NONE", desk.gravest(0), WheelDesk.BAD);
        Check.tells("gravest", Desks::busy, d -> d.gravest(100), Desks.busy().gravest(100));
        Check.refuses("ticks below", Desks::busy, d -> d.gravest(0), WheelDesk.BAD);
        Check.refuses("ticks above", Desks::busy, d -> d.gravest(101), WheelDesk.BAD);
        Check.refuses("ticks far below", Desks::busy, d -> d.gravest(Integer.MIN_VALUE), WheelDesk.BAD);
    }

    /** Wheel 0 is strong, wheel 3 weak: without wheel 0 the craft lags, without wheel 1 it stands. */
    private static void gravestByDrift() {
        WheelDesk desk = new WheelDesk();
        desk.addWheel(1, 0, 0, 1000000, 1000);
        desk.addWheel(1, 0, 0, 1000000, 100);
        desk.addWheel(0, 1, 0, 1000000, 1000);
        desk.addWheel(0, 1, 0, 1000000, 1000);
        desk.addWheel(0, 0, 1, 1000000, 1000);
        desk.addWheel(0, 0, 1, 1000000, 1000);
        desk.setAxis(0, 1, 10000);
        Check.due("the strong one", desk.gravest(10), 0);
        WheelDesk turned = new WheelDesk();
        turned.addWheel(1, 0, 0, 1000000, 100);
        turned.addWheel(1, 0, 0, 1000000, 1000);
        turned.addWheel(0, 1, 0, 1000000, 1000);
        turned.addWheel(0, 1, 0, 1000000, 1000);
        turned.addWheel(0, 0, 1, 1000000, 1000);
        turned.addWheel(0, 0, 1, 1000000, 1000);
        turned.setAxis(0, 1, -10000);
        Check.due("the strong one, behind the weak one", turned.gravest(10), 1);
    }

    /** It drifts over its target: wheel 0 can be missed, without wheel 1 the drift goes on. */
    private static WheelDesk crossing() {
        WheelDesk desk = Desks.threeWheels();
        desk.addWheel(1, 0, 0, 1000000, 100000);
        desk.strike(0, 1000);
        desk.setAxis(0, 1, 100);
        return desk;
    }

    /** What is tried for a number of ticks is what comes if the wheel fails and they are made. */
    private static void gravestAsMade() {
        int firsts = 0;
        for (int ticks = 1; ticks <= 40; ticks++) {
            int due = 0;
            for (int k = 1; k < 4; k++) {
                due = offWithout(k, ticks) > offWithout(due, ticks) ? k : due;
            }
            firsts += due == 0 ? 1 : 0;
            Check.due("gravest(" + ticks + ")", crossing().gravest(ticks), due);
        }
        Check.due("the gravest one changes with the ticks", firsts > 5 && firsts < 35 ? 1 : 0, 1);
    }

    private static long offWithout(int wheel, int ticks) {
        WheelDesk desk = crossing();
        desk.fail(wheel, true);
        desk.tick(ticks);
        long sum = 0;
        for (int axis = 0; axis < 3; axis++) {
            sum += Math.abs(desk.axis(axis, 6) - desk.axis(axis, 0));
        }
        return sum;
    }
}
