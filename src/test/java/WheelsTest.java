/** Promises 1 to 6: a new object and its wheels. */
public final class WheelsTest {
    public static void main(String[] args) {
        newObject();
        addWheel();
        addWheelWrong();
        failing();
        setMost();
        wheelTold();
        wheelGot();
        Check.end();
    }

    private static void newObject() {
        WheelDesk desk = new WheelDesk();
        Check.due("new time()", desk.time(), 0);
        Check.due("new wheels()", desk.wheels(), 0);
        int[] settings = {10, 60, 500, 2000, 0};
        for (int what = 0; what < 5; what++) {
            Check.due("new setting " + what, desk.setting(what), settings[what]);
        }
        for (int axis = 0; axis < 3; axis++) {
            for (int what = 0; what < 10; what++) {
                Check.due("new axis " + axis + " " + what, desk.axis(axis, what), what == 5 ? 100 : 0);
            }
        }
        Check.due("new span()", desk.span(), 0);
        Check.due("new why(0)", desk.why(0), 0);
        Check.due("new why(1)", desk.why(1), WheelDesk.NONE);
        Check.due("new wheel(0, 0)", desk.wheel(0, 0), WheelDesk.BAD);
        Check.due("new undo()", desk.undo(), WheelDesk.NONE);
    }

    private static void addWheel() {
        WheelDesk desk = new WheelDesk();
        Check.due("least", desk.addWheel(-9, -9, -9, 1, 1), 0);
        Check.due("greatest", desk.addWheel(9, 9, 9, 1000000, 100000), 1);
        Check.due("along 0", desk.addWheel(1, 0, 0, 5, 6), 2);
        Check.due("along 1", desk.addWheel(0, -1, 0, 5, 6), 3);
        Check.due("along 2", desk.addWheel(0, 0, 1, 5, 6), 4);
        Check.due("five wheels", desk.wheels(), 5);
        Check.due("the same again", desk.addWheel(0, 0, 1, 5, 6), 5);
        Check.due("six wheels", desk.wheels(), 6);
        Check.acts("addWheel", Desks::busy, d -> d.addWheel(1, 2, 3, 4, 5), 4);
        WheelDesk again = Desks.busy();
        again.addWheel(5, 5, 5, 50, 50);
        again.fail(4, true);
        again.undo();
        again.undo();
        Check.due("the number is free again", again.addWheel(1, 2, 3, 4, 5), 4);
        int[] due = {1, 2, 3, 0, 4, 5, 0, 0};
        for (int what = 0; what < 8; what++) {
            Check.due("a wheel starts anew " + what, again.wheel(4, what), due[what]);
        }
    }

    private static void addWheelWrong() {
        int bad = WheelDesk.BAD;
        Check.refuses("x above", Desks::busy, d -> d.addWheel(10, 1, 1, 1, 1), bad);
        Check.refuses("x below", Desks::busy, d -> d.addWheel(-10, 1, 1, 1, 1), bad);
        Check.refuses("y above", Desks::busy, d -> d.addWheel(1, 10, 1, 1, 1), bad);
        Check.refuses("y below", Desks::busy, d -> d.addWheel(1, -10, 1, 1, 1), bad);
        Check.refuses("z above", Desks::busy, d -> d.addWheel(1, 1, 10, 1, 1), bad);
        Check.refuses("z below", Desks::busy, d -> d.addWheel(1, 1, -10, 1, 1), bad);
        Check.refuses("no direction", Desks::busy, d -> d.addWheel(0, 0, 0, 1, 1), bad);
        Check.refuses("momentum below", Desks::busy, d -> d.addWheel(1, 1, 1, 0, 1), bad);
        Check.refuses("momentum above", Desks::busy, d -> d.addWheel(1, 1, 1, 1000001, 1), bad);
        Check.refuses("torque below", Desks::busy, d -> d.addWheel(1, 1, 1, 1, 0), bad);
        Check.refuses("torque above", Desks::busy, d -> d.addWheel(1, 1, 1, 1, 100001), bad);
        Check.refuses("extremes", Desks::busy, d -> d.addWheel(Integer.MIN_VALUE, Integer.MAX_VALUE, 0,
                Integer.MAX_VALUE, Integer.MIN_VALUE), bad);
        Check.refuses("a seventh", Desks::full, d -> d.addWheel(1, 1, 1, 1, 1), WheelDesk.FULL);
        Check.refuses("BAD is before FULL", Desks::full, d -> d.addWheel(0, 0, 0, 1, 1), bad);
    }

    private static void failing() {
        WheelDesk desk = Desks.threeWheels();
        Check.due("it works", desk.fail(1, true), 0);
        Check.due("it has failed", desk.wheel(1, 6), 1);
        Check.due("again", desk.fail(1, true), 1);
        Check.due("works again", desk.fail(1, false), 1);
        Check.due("it works now", desk.wheel(1, 6), 0);
        Check.due("it worked", desk.fail(1, false), 0);
        for (int i = 0; i < 3; i++) {
            Check.due("the state behind fail " + i, desk.wheel(1, 6), i == 2 ? 1 : 0);
            desk.undo();
        }
        Check.acts("fail", Desks::busy, d -> d.fail(0, true), 0);
        Check.acts("fail that changes nothing", Desks::busy, d -> d.fail(3, true), 1);
        Check.refuses("no such wheel", Desks::busy, d -> d.fail(4, true), WheelDesk.BAD);
        Check.refuses("a wheel below", Desks::busy, d -> d.fail(-1, false), WheelDesk.BAD);
        Check.refuses("a wheel far above", Desks::full, d -> d.fail(6, false), WheelDesk.BAD);
        failingLeavesWhatIsTold();
    }

    private static void failingLeavesWhatIsTold() {
        WheelDesk desk = new WheelDesk();
        desk.addWheel(1, 0, 0, 10000, 500);
        desk.addWheel(0, 1, 0, 10000, 500);
        desk.addWheel(0, 0, 1, 10000, 500);
        desk.setAxis(1, 1, 2000);
        desk.tick(1);
        desk.fail(1, true);
        Check.due("why(0) stays", desk.why(0), 2);
        Check.due("why(1) stays", desk.why(1), 21);
        Check.due("why(2) stays", desk.why(2), 4);
        Check.due("the torque that it got stays", desk.wheel(1, 7), -500);
        Check.due("its momentum stays", desk.wheel(1, 3), -500);
        Check.due("the wish stays", desk.axis(1, 9), 2000);
        desk.tick(1);
        Check.due("a failed one got nothing", desk.wheel(1, 7), 0);
        Check.due("a failed one keeps its momentum", desk.wheel(1, 3), -500);
        desk.fail(1, false);
        Check.due("why(0) still tells of the tick", desk.why(0), 1);
        Check.due("why(1) still tells of the tick", desk.why(1), 11);
    }

    private static void setMost() {
        WheelDesk desk = Desks.busy();
        Check.due("greatest momentum", desk.setMost(1, false, 1000000), 5000);
        Check.due("it is set", desk.wheel(1, 4), 1000000);
        Check.due("the torque is left", desk.wheel(1, 5), 2000);
        Check.due("least momentum", desk.setMost(1, false, 1), 1000000);
        Check.due("greatest torque", desk.setMost(1, true, 100000), 2000);
        Check.due("it is set", desk.wheel(1, 5), 100000);
        Check.due("the momentum is left", desk.wheel(1, 4), 1);
        Check.due("least torque", desk.setMost(1, true, 1), 100000);
        Check.acts("momentum", Desks::busy, d -> d.setMost(0, false, 7), 400);
        Check.acts("torque", Desks::busy, d -> d.setMost(3, true, 7), 2000);
        int bad = WheelDesk.BAD;
        Check.refuses("no such wheel", Desks::busy, d -> d.setMost(4, true, 7), bad);
        Check.refuses("a wheel below", Desks::busy, d -> d.setMost(-1, false, 7), bad);
        Check.refuses("a seventh wheel", Desks::full, d -> d.setMost(6, false, 7), bad);
        Check.refuses("momentum 0", Desks::busy, d -> d.setMost(0, false, 0), bad);
        Check.refuses("momentum above", Desks::busy, d -> d.setMost(0, false, 1000001), bad);
        Check.refuses("torque 0", Desks::busy, d -> d.setMost(0, true, 0), bad);
        Check.refuses("torque above", Desks::busy, d -> d.setMost(0, true, 100001), bad);
    }

    private static void wheelTold() {
        WheelDesk desk = new WheelDesk();
        desk.addWheel(-9, 4, 7, 321, 12);
        int[] due = {-9, 4, 7, 0, 321, 12, 0, 0};
        for (int what = 0; what < 8; what++) {
            int asked = what;
            Check.due("wheel(0, " + what + ")", desk.wheel(0, what), due[what]);
            Check.tells("wheel(0, what) of a busy one", Desks::busy, d -> d.wheel(0, asked),
                    Desks.busy().wheel(0, what));
        }
        int bad = WheelDesk.BAD;
        Check.refuses("what below", Desks::busy, d -> d.wheel(0, -1), bad);
        Check.refuses("what above", Desks::busy, d -> d.wheel(0, 8), bad);
        Check.refuses("no such wheel", Desks::busy, d -> d.wheel(4, 0), bad);
        Check.refuses("a wheel below", Desks::busy, d -> d.wheel(-1, 0), bad);
        Check.refuses("a seventh wheel", Desks::full, d -> d.wheel(6, 0), bad);
        Check.tells("wheels()", Desks::busy, d -> d.wheels(), 4);
        Check.tells("wheels() without any", WheelDesk::new, d -> d.wheels(), 0);
        Check.tells("wheels() full", Desks::full, d -> d.wheels(), 6);
    }

    private static void wheelGot() {
        WheelDesk desk = Desks.threeWheels();
        desk.setAxis(0, 1, 2000);
        desk.tick(1);
        Check.due("it got", desk.wheel(0, 7), -2000);
        Check.due("it holds", desk.wheel(0, 3), -2000);
        desk.addWheel(1, 1, 1, 100, 100);
        Check.due("no tick since it was added", desk.wheel(3, 7), 0);
        desk.fail(1, true);
        desk.fail(2, true);
        desk.tick(1);
        Check.due("the wheels did not span", desk.wheel(0, 7), 0);
        Check.due("its momentum stays", desk.wheel(0, 3), -2000);
    }
}
