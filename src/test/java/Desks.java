/** Desks that several tests begin with. */
final class Desks {
    private Desks() {
    }

    /** Three wheels along the axes, with room enough that no wish is cut. */
    static WheelDesk threeWheels() {
        WheelDesk desk = new WheelDesk();
        desk.addWheel(1, 0, 0, 1000000, 100000);
        desk.addWheel(0, 1, 0, 1000000, 100000);
        desk.addWheel(0, 0, 1, 1000000, 100000);
        return desk;
    }

    /** Four wheels, any three of which span, in motion: nothing that is told of it is what it is in a new one. */
    static WheelDesk busy() {
        WheelDesk desk = new WheelDesk();
        desk.addWheel(3, 1, 2, 400, 50);
        desk.addWheel(-1, 4, 2, 5000, 2000);
        desk.addWheel(2, 2, -5, 5000, 2000);
        desk.addWheel(1, -3, 1, 5000, 2000);
        desk.setAxis(0, 1, 9000);
        desk.setAxis(1, 2, 70);
        desk.setAxis(2, 3, -12);
        desk.set(4, 4000);
        desk.strike(2, 4321);
        desk.fail(3, true);
        desk.tick(7);
        return desk;
    }

    /** Six wheels: no more can be added. */
    static WheelDesk full() {
        WheelDesk desk = threeWheels();
        desk.addWheel(1, 1, 0, 10, 10);
        desk.addWheel(0, 1, 1, 10, 10);
        desk.addWheel(1, 0, 1, 10, 10);
        return desk;
    }
}
