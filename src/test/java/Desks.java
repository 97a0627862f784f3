/** Desks that several tests begin with. */
final class Desks {
    private Desks() {
    }

    /** Three wheels along the axes, with room enough that no wish is cut. */
    static WheelDesk threeWheels() {
        WheelDesk desk = new WheelDesk();
        desk.addWheel(1, 0, 0, 1000000, 100000);
        desk.addWheel(0, 1, 0, 1000000, 100000);
        desk.addWheel(0, 0, 1, 1000000, 100000);
        return desk;
    }

    /** Four wheels, any three of which span, in motion: nothing that is told of it is what it is in a new one. */
    static WheelDesk busy() {
        WheelDesk desk = new WheelDesk();
        desk.addWheel(3, 1, 2, 400, 50);
        desk.addWheel(-1, 4, 2, 5000, 2000);
        desk.addWheel(2, 2, -5, 5000, 2000);
        desk.addWheel(1, -3, 1, 5000, 2000);
        desk.setAxis(0, 1, 9000);
        desk.setAxis(1, 2, 70);
        desk.setAxis(2, 3, -12);
        desk.set(4, 4000);
        desk.strike(2, 4321);
        desk.fail(3, true);
        desk.tick(7);
        return desk;
    }

    /** Six wheels: no more can be added. */
    static WheelDesk full() {
        WheelDesk desk = threeWheels();
        desk.addWheel(1, 1, 0, 10, 10);
        desk.addWheel(0, 1, 1, 10, 10);
        desk.addWheel(1, 0, 1, 10, 10);
        return desk;
    }

    /** Three wheels, in motion, with an empty history. */
    static WheelDesk emptied() {
        WheelDesk desk = threeWheels();
        desk.setAxis(0, 1, 777);
        desk.strike(1, -4321);
        desk.tick(3);
        for (int i = 0; i < 4; i++) {
            desk.set(0, 20 + i);
        }
        for (int i = 0; i < 4; i++) {
            desk.undo();
        }
        return desk;
    }

    /** Six wheels, all of which have failed. */
    static WheelDesk allFailed() {
        WheelDesk desk = full();
        for (int k = 0; k < 6; k++) {
            desk.fail(k, true);
        }
        return desk;
    }

    /** Three wheels, at rest, at the greatest time. */
    static WheelDesk old() {
        return aged(50000);
    }

    /** Three wheels, at rest, at some time. */
    static WheelDesk aged(int time) {
        WheelDesk desk = threeWheels();
        for (int left = time; left > 0; left -= 200) {
            desk.tick(Math.min(left, 200));
        }
        return desk;
    }

    /** A wheel along each axis, which wishes just the momentum of the craft there (within 100000). */
    static WheelDesk direct(int momentum, int torque) {
        WheelDesk desk = new WheelDesk();
        for (int k = 0; k < 3; k++) {
            desk.addWheel(k == 0 ? 1 : 0, k == 1 ? 1 : 0, k == 2 ? 1 : 0, momentum, torque);
            desk.setAxis(k, 0, 1);
        }
        desk.set(0, 0);
        desk.set(1, 1);
        desk.set(3, 100000);
        return desk;
    }

    /** The craft at rest, the wheels with some momenta (whole hundreds), a law that does nothing, and a field. */
    static WheelDesk loaded(int[] held, int[] field, int limit) {
        WheelDesk desk = threeWheels();
        desk.set(0, 0);
        desk.set(1, 100);
        desk.set(3, 100000);
        for (int axis = 0; axis < 3; axis++) {
            desk.strike(axis, held[axis]);
        }
        desk.tick(1);
        desk.set(1, 0);
        desk.set(4, limit);
        for (int axis = 0; axis < 3; axis++) {
            desk.setAxis(axis, 2, field[axis]);
        }
        return desk;
    }

    /** Two wheels along each axis: any three of one pair each span. */
    static WheelDesk pairs() {
        WheelDesk desk = threeWheels();
        desk.addWheel(1, 0, 0, 1000000, 100000);
        desk.addWheel(0, 1, 0, 1000000, 100000);
        desk.addWheel(0, 0, 1, 1000000, 100000);
        return desk;
    }

    /** Six wheels in a plane. */
    static WheelDesk flat() {
        WheelDesk desk = new WheelDesk();
        for (int k = 0; k < 6; k++) {
            desk.addWheel(1, k - 3, 0, 1000, 1000);
        }
        return desk;
    }
}
