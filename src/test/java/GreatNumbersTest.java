/** Numbers that an int would not hold, worked out by hand: the wheels' wishes, the law, the field, the angle. */
public final class GreatNumbersTest {
    public static void main(String[] args) {
        longWheels();
        farAngle();
        farFromTheTarget();
        fastTurn();
        heavyWheels();
        Check.end();
    }

    /**
     * The matrix is 648 on top of a row of -162 everywhere, so the wheel (9, 9, -9) wishes minus
     * (9 * t0 + 9 * t1 - 9 * t2 + 9 * (t0 + t1 + t2)) / 648.
     */
    private static void longWheels() {
        WheelDesk desk = new WheelDesk();
        for (int i = 0; i < 2; i++) {
            desk.addWheel(9, 9, -9, 1000000, 100000);
            desk.addWheel(9, -9, 9, 1000000, 100000);
            desk.addWheel(-9, 9, 9, 1000000, 100000);
        }
        int most = 100000;
        for (int k = 0; k < 6; k++) {
            Check.due("all up " + k, desk.wish(k, most, most, most), -5556);
            Check.due("all down " + k, desk.wish(k, -most, -most, -most), 5556);
            Check.due("one down " + k, desk.wish(k, most, most, -most), k % 3 == 0 ? -5556 : 0);
            Check.due("one up " + k, desk.wish(k, -most, -most, most), k % 3 == 0 ? 5556 : 0);
        }
    }

    private static WheelDesk fast(int axis, int strikes, int by) {
        WheelDesk desk = new WheelDesk();
        desk.setAxis(axis, 0, 1);
        for (int i = 0; i < strikes; i++) {
            desk.strike(axis, by);
        }
        return desk;
    }

    private static void farAngle() {
        for (int axis = 0; axis < 3; axis++) {
            for (int sign = -1; sign <= 1; sign += 2) {
                WheelDesk desk = fast(axis, 20, sign * 100000);
                for (int i = 0; i < 6; i++) {
                    desk.tick(200);
                }
                Check.due("1200 ticks of 2000000", desk.axis(axis, 0), sign * 2400000000L);
                Check.due("it is not there", desk.arrives(1000000), WheelDesk.NONE);
                Check.due("undo()", desk.undo(), 3);
                Check.due("1000 ticks of 2000000", desk.axis(axis, 0), sign * 2000000000L);
            }
        }
    }

    private static void farFromTheTarget() {
        for (int axis = 0; axis < 3; axis++) {
            for (int sign = -1; sign <= 1; sign += 2) {
                WheelDesk desk = fast(axis, 1, sign * 100000);
                desk.tick(200);
                desk.strike(axis, -sign * 100000);
                desk.set(0, 1000);
                desk.set(1, 1);
                desk.set(2, 10000);
                desk.set(3, 100000);
                desk.tick(1);
                Check.due("1000 * 20000000, within the rate limit", desk.axis(axis, 9), -sign * 10000);
            }
        }
    }

    private static void fastTurn() {
        for (int axis = 0; axis < 3; axis++) {
            for (int sign = -1; sign <= 1; sign += 2) {
                WheelDesk desk = fast(axis, 22, sign * 100000);
                desk.set(1, 1000);
                desk.tick(1);
                Check.due("1000 * 2200000, within the torque limit", desk.axis(axis, 9), -sign * 2000);
            }
        }
    }

    /** Four wheels take up 25000000: 249 times 36 * 2778, then 36 * 2722, and 16 are left to the craft. */
    private static void heavyWheels() {
        for (int sign = -1; sign <= 1; sign += 2) {
            WheelDesk desk = new WheelDesk();
            desk.addWheel(1, 0, 0, 1000000, 100000);
            desk.addWheel(0, 1, 0, 1000000, 100000);
            for (int i = 0; i < 4; i++) {
                desk.addWheel(0, 0, 9, 1000000, 100000);
            }
            desk.setAxis(2, 0, 1);
            desk.set(0, 0);
            desk.set(1, 1);
            desk.set(3, 100000);
            for (int i = 0; i < 250; i++) {
                desk.strike(2, sign * 100000);
            }
            desk.tick(200);
            desk.tick(60);
            Check.due("what each wheel holds", desk.wheel(5, 3), sign * (249 * 2778 + 2722));
            Check.due("what is left to the craft", desk.axis(2, 1), sign * 16);
            Check.due("the whole momentum", desk.axis(2, 3), sign * 25000000);
            desk.set(1, 0);
            desk.set(4, 10000);
            desk.setAxis(0, 2, 100);
            desk.tick(1);
            Check.due("100 * 24999984 / 1000, within the limit", desk.axis(2, 1), sign * (16 - 10000));
            Check.due("from outside", desk.axis(2, 4), sign * (25000000 - 10000));
        }
    }
}
