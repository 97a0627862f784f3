/** Promises 11 and 12: a tick, with the law, the sharing, the wheels' limits and the field; and the time. */
public final class TimeTest {
    public static void main(String[] args) {
        law();
        sharing();
        wheelLimits();
        beyondTheGreatest();
        met();
        field();
        outside();
        wrongTicks();
        greatestTime();
        Check.end();
    }

    private static void law() {
        WheelDesk desk = Desks.threeWheels();
        desk.setAxis(0, 1, 2000);
        desk.tick(1);
        Check.due("within the torque limit", desk.axis(0, 9), 2000);
        desk.undo();
        desk.set(3, 100000);
        desk.tick(1);
        Check.due("60 * (10 * 2000 / 100)", desk.axis(0, 9), 12000);
        Check.due("momentum of the craft", desk.axis(0, 1), 12000);
        Check.due("momentum of the wheel", desk.wheel(0, 3), -12000);
        Check.due("rate", desk.axis(0, 2), 120);
        Check.due("the angle grows by the new rate", desk.axis(0, 0), 120);
        Check.due("the whole momentum stays", desk.axis(0, 3), 0);
        desk.tick(1);
        Check.due("60 * (10 * 1880 / 100 - 120)", desk.axis(0, 9), 60 * (188 - 120));
        desk = Desks.threeWheels();
        desk.set(1, 1);
        desk.setAxis(1, 1, 1000000);
        desk.setAxis(2, 1, -1000000);
        desk.tick(1);
        Check.due("within the rate limit", desk.axis(1, 9), 500);
        Check.due("within minus the rate limit", desk.axis(2, 9), -500);
        desk.set(2, 700);
        desk.set(3, 300);
        desk.tick(1);
        Check.due("within a lower torque limit", desk.axis(1, 9), 300);
        Check.due("within minus the torque limit", desk.axis(2, 9), -300);
        lawRoundsDown();
    }

    private static void lawRoundsDown() {
        WheelDesk desk = Desks.threeWheels();
        desk.setAxis(0, 1, -1);
        desk.setAxis(1, 1, 1);
        desk.strike(2, -1);
        desk.tick(1);
        Check.due("a wanted rate of -10 / 100", desk.axis(0, 9), -60);
        Check.due("a wanted rate of 10 / 100", desk.axis(1, 9), 0);
        Check.due("a rate of -1 / 100", desk.axis(2, 9), 60);
    }

    private static void sharing() {
        WheelDesk desk = new WheelDesk();
        desk.addWheel(1, 0, 0, 1000000, 100000);
        desk.addWheel(1, 0, 0, 1000000, 100000);
        desk.addWheel(0, 1, 0, 1000000, 100000);
        desk.addWheel(0, 0, 2, 1000000, 100000);
        desk.addWheel(0, 3, 0, 1000000, 100000);
        desk.fail(4, true);
        desk.setAxis(0, 1, 400);
        desk.setAxis(1, 1, 40);
        desk.setAxis(2, 1, 100);
        Check.due("a tick met", desk.tick(1), 1);
        int[] got = {-1000, -1000, -240, -300, 0};
        for (int k = 0; k < 5; k++) {
            Check.due("share of wheel " + k, desk.wheel(k, 7), got[k]);
            Check.due("momentum of wheel " + k, desk.wheel(k, 3), got[k]);
        }
        Check.due("craft at 0", desk.axis(0, 1), 2000);
        Check.due("craft at 1", desk.axis(1, 1), 240);
        Check.due("craft at 2", desk.axis(2, 1), 600);
    }

    private static void strikeAndTick(WheelDesk desk, int momentum, int got, int reason) {
        String name = "momentum " + momentum + " with " + desk.wheel(0, 3) + " of " + desk.wheel(0, 4)
                + " and torque " + desk.wheel(0, 5);
        desk.strike(0, momentum - (int) desk.axis(0, 1));
        int before = desk.wheel(0, 3);
        Check.due(name + ": met", desk.tick(1), reason == 0 ? 1 : 0);
        Check.due(name + ": got", desk.wheel(0, 7), got);
        Check.due(name + ": wheel", desk.wheel(0, 3), before + got);
        Check.due(name + ": craft", desk.axis(0, 1), momentum - got);
        Check.due(name + ": why(0)", desk.why(0), reason == 0 ? 0 : 2);
        Check.due(name + ": why(1)", desk.why(1), reason == 0 ? WheelDesk.NONE : 20);
        Check.due(name + ": why(2)", desk.why(2), reason == 0 ? WheelDesk.NONE : reason);
        Check.due(name + ": why(3)", desk.why(3), WheelDesk.NONE);
    }

    private static void wheelLimits() {
        WheelDesk desk = Desks.direct(100, 500);
        strikeAndTick(desk, 60, 60, 0);
        strikeAndTick(desk, 60, 40, 3);
        strikeAndTick(desk, 1, 0, 3);
        strikeAndTick(desk, -700, -200, 3);
        strikeAndTick(desk, 200, 200, 0);
        strikeAndTick(desk, -501, -200, 3);
        desk.setMost(0, true, 50);
        strikeAndTick(desk, 50, 50, 0);
        strikeAndTick(desk, 51, 50, 4);
        strikeAndTick(desk, 49, 49, 0);
        strikeAndTick(desk, -51, -50, 4);
        strikeAndTick(desk, -50, -50, 0);
        strikeAndTick(desk, 50, 50, 0);
        strikeAndTick(desk, 51, 50, 4);
        strikeAndTick(desk, 1, 1, 0);
        // What the torque allows is also what the momentum allows: the torque is told.
        strikeAndTick(desk, 77, 50, 4);
        strikeAndTick(desk, 77, 0, 3);
        strikeAndTick(desk, 0, 0, 0);
    }

    private static void beyondTheGreatest() {
        WheelDesk desk = Desks.direct(100, 500);
        strikeAndTick(desk, 100, 100, 0);
        desk.setMost(0, false, 40);
        strikeAndTick(desk, 0, 0, 0);
        strikeAndTick(desk, 30, 0, 3);
        strikeAndTick(desk, 900, 0, 3);
        strikeAndTick(desk, -30, -30, 0);
        desk.setMost(0, true, 5);
        strikeAndTick(desk, -30, -5, 4);
        desk.setMost(0, true, 500);
        strikeAndTick(desk, -600, -105, 3);
        desk.setMost(0, false, 10);
        strikeAndTick(desk, -1, 0, 3);
        strikeAndTick(desk, 50, 50, 0);
        desk.setMost(0, false, 5);
        strikeAndTick(desk, 15, 0, 3);
        strikeAndTick(desk, -16, -15, 3);
    }

    private static void met() {
        WheelDesk desk = new WheelDesk();
        Check.due("without wheels", desk.tick(3), 0);
        Check.due("why(0) without wheels", desk.why(0), 1);
        desk = Desks.threeWheels();
        Check.due("a wish of 0 is met", desk.tick(4), 4);
        desk.setMost(2, true, 5);
        desk.setAxis(2, 1, 1);
        desk.set(0, 100);
        Check.due("the first one is not met", desk.tick(1), 0);
        Check.due("why(1)", desk.why(1), 22);
        desk.fail(2, true);
        Check.due("they do not span", desk.tick(2), 0);
        desk.addWheel(1, 1, 1, 1000000, 100000);
        Check.due("a failed wheel does not count", desk.tick(2), 2);
        desk = Desks.threeWheels();
        desk.setMost(1, true, 100);
        desk.setAxis(1, 0, 1);
        desk.set(0, 0);
        desk.set(1, 1);
        desk.strike(1, 250);
        Check.due("only those that are met are counted", desk.tick(10), 8);
        Check.due("the latest one is told", desk.why(0), 0);
    }

    private static void field() {
        WheelDesk desk = Desks.threeWheels();
        desk.set(0, 0);
        desk.set(1, 100);
        desk.strike(2, 1000);
        desk.setAxis(0, 2, 10);
        desk.tick(1);
        Check.due("no magnets", desk.axis(2, 4), 1000);
        desk.undo();
        desk.set(4, 10000);
        desk.tick(1);
        Check.due("the wheel took it in this tick", desk.wheel(2, 3), 1000);
        Check.due("let go", desk.axis(2, 4), 999);
        Check.due("momentum of the craft", desk.axis(2, 1), -1);
        Check.due("the whole momentum", desk.axis(2, 3), 999);
        Check.due("nothing at 0", desk.axis(0, 4), 0);
        Check.due("nothing at 1", desk.axis(1, 4), 0);
        fieldAround();
        fieldLimited();
    }

    private static WheelDesk loaded(int b0, int b1, int b2, int limit) {
        return Desks.loaded(new int[] {7000, -5000, 3000}, new int[] {b0, b1, b2}, limit);
    }

    private static void fieldAround() {
        WheelDesk desk = loaded(11, -13, 17, 10000);
        desk.tick(1);
        // m = (-85000 + 39000, 33000 - 119000, -91000 + 55000) / 1000 = (-46, -86, -36)
        Check.due("m1 * b2 - m2 * b1 = -1930", desk.axis(0, 1), -20);
        Check.due("m2 * b0 - m0 * b2 = 386", desk.axis(1, 1), 3);
        Check.due("m0 * b1 - m1 * b0 = 1544", desk.axis(2, 1), 15);
        desk = loaded(0, 0, 1, 10000);
        desk.tick(1);
        // m = (-5000, -7000, 0) / 1000, so torques of -7 / 100 and 5 / 100
        Check.due("rounded down", desk.axis(0, 1), -1);
        Check.due("rounded down", desk.axis(1, 1), 0);
        desk = loaded(0, 1, 0, 10000);
        desk.tick(1);
        // m = (-3000, 0, 7000) / 1000
        Check.due("rounded down at 0", desk.axis(0, 1), -1);
        Check.due("rounded down at 2", desk.axis(2, 1), -1);
        desk = Desks.loaded(new int[] {100000, 0, 0}, new int[] {0, 0, 50}, 10000);
        desk.tick(1);
        // m = (0, -5000, 0)
        Check.due("-5000 * 50 / 100", desk.axis(0, 1), -2500);
        Check.due("nothing at 1", desk.axis(1, 1), 0);
        Check.due("nothing at 2", desk.axis(2, 1), 0);
    }

    private static void fieldLimited() {
        WheelDesk desk = loaded(11, -13, 17, 40);
        desk.tick(1);
        // m = (-40, -40, -36)
        Check.due("m1 * b2 - m2 * b1 = -1148", desk.axis(0, 1), -12);
        Check.due("m2 * b0 - m0 * b2 = 284", desk.axis(1, 1), 2);
        Check.due("m0 * b1 - m1 * b0 = 960", desk.axis(2, 1), 9);
        desk.fail(0, true);
        desk.fail(1, true);
        desk.fail(2, true);
        desk.tick(1);
        Check.due("failed wheels count, too", desk.axis(0, 1), -24);
        desk = loaded(-11, 13, -17, 40);
        desk.tick(1);
        // m = (40, 40, 36): both vectors are turned round, so the torque is the same
        Check.due("the other way round", desk.axis(0, 1), -12);
    }

    private static void outside() {
        WheelDesk desk = new WheelDesk();
        desk.setAxis(0, 3, 1000);
        desk.setAxis(1, 3, -1000);
        desk.setAxis(2, 3, 30);
        desk.tick(10);
        Check.due("disturbance", desk.axis(0, 1), 10000);
        Check.due("from outside", desk.axis(0, 4), 10000);
        Check.due("disturbance below 0", desk.axis(1, 4), -10000);
        Check.due("the angle: 10 + 20 + .. + 100", desk.axis(0, 0), 550);
        Check.due("the angle: -10 - 20 - .. - 100", desk.axis(1, 0), -550);
        Check.due("the angle: 0 0 0 1 1 1 2 2 2 3", desk.axis(2, 0), 12);
        WheelDesk busy = Desks.busy();
        busy.tick(150);
        for (int axis = 0; axis < 3; axis++) {
            Check.due("the whole momentum came from outside", busy.axis(axis, 3), busy.axis(axis, 4));
        }
    }

    private static void wrongTicks() {
        Check.refuses("tick(0)", Desks::busy, d -> d.tick(0), WheelDesk.BAD);
        Check.refuses("tick(-1)", Desks::busy, d -> d.tick(-1), WheelDesk.BAD);
        Check.refuses("tick(201)", Desks::busy, d -> d.tick(201), WheelDesk.BAD);
        Check.refuses("tick(greatest)", Desks::busy, d -> d.tick(Integer.MAX_VALUE), WheelDesk.BAD);
        Check.acts("tick(1)", Desks::threeWheels, d -> d.tick(1), 1);
        Check.acts("tick(200)", Desks::threeWheels, d -> d.tick(200), 200);
    }

    private static WheelDesk old() {
        return Desks.aged(49999);
    }

    private static void greatestTime() {
        WheelDesk desk = new WheelDesk();
        desk.tick(1);
        desk.tick(20);
        Check.due("time()", desk.time(), 21);
        Check.tells("time()", Desks::busy, d -> d.time(), 7);
        Check.refuses("one beyond", TimeTest::old, d -> d.tick(2), WheelDesk.STATE);
        Check.refuses("far beyond", TimeTest::old, d -> d.tick(200), WheelDesk.STATE);
        Check.refuses("BAD is before STATE", TimeTest::old, d -> d.tick(201), WheelDesk.BAD);
        desk = old();
        Check.due("time()", desk.time(), 49999);
        Check.due("the last tick", desk.tick(1), 1);
        Check.due("the greatest time", desk.time(), 50000);
        Check.due("no more", desk.tick(1), WheelDesk.STATE);
        desk.undo();
        Check.due("the last tick again", desk.tick(1), 1);
        desk.strike(0, 300);
        Check.due("arrives() beyond the greatest time", desk.arrives(5), struck().arrives(5));
    }

    private static WheelDesk struck() {
        WheelDesk desk = Desks.threeWheels();
        desk.strike(0, 300);
        return desk;
    }
}
