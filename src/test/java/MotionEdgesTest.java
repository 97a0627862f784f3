/** The craft, "THE LAW", "THE FIELD" and "A TICK": a test for each sentence that names an edge. */
public final class MotionEdgesTest {
    public static void main(String[] args) {
        rate();
        strikes();
        rateLimit();
        gainP();
        torqueLimit();
        gainD();
        farTargets();
        magnetLimit();
        momentRoundsDown();
        torqueRoundsDown();
        fieldAround();
        momentaAsTheyAreThen();
        angleByTheRateThen();
        disturbance();
        ticks();
        greatestTime();
        Check.end();
    }

    /** "Its rate at an axis is momentum / inertia", rounded down. */
    private static void rate() {
        int[][] due = {
            {0, 1, 0}, {1, 1, 1}, {-1, 1, -1}, {100000, 1, 100000}, {-100000, 1, -100000}, {999, 1000, 0},
            {1000, 1000, 1}, {1999, 1000, 1}, {-1, 1000, -1}, {-1000, 1000, -1}, {-1001, 1000, -2},
            {100000, 1000, 100}, {-100000, 1000, -100}, {99, 100, 0}, {100, 100, 1}, {-100, 100, -1}, {-101, 100, -2}};
        for (int[] row : due) {
            for (int axis = 0; axis < 3; axis++) {
                String name = row[0] + " / " + row[1] + " at " + axis;
                WheelDesk desk = new WheelDesk();
                desk.setAxis(axis, 0, row[1]);
                Check.due("strike() " + name, desk.strike(axis, row[0]), row[2]);
                Check.due("the rate " + name, desk.axis(axis, 2), row[2]);
                Check.due("no other axis", desk.axis((axis + 1) % 3, 2) + desk.axis((axis + 2) % 3, 2), 0);
                desk.tick(3);
                Check.due("the angle " + name, desk.axis(axis, 0), 3L * row[2]);
            }
        }
    }

    /** "Its momentum at an axis grows, and so does the sum of what came from outside"; the rate at the axis then. */
    private static void strikes() {
        for (int axis = 0; axis < 3; axis++) {
            WheelDesk desk = new WheelDesk();
            Check.due("the greatest", desk.strike(axis, 100000), 1000);
            Check.due("again", desk.strike(axis, 100000), 2000);
            Check.due("back", desk.strike(axis, -100000), 1000);
            Check.due("nothing", desk.strike(axis, 0), 1000);
            Check.due("momentum", desk.axis(axis, 1), 100000);
            Check.due("whole momentum", desk.axis(axis, 3), 100000);
            Check.due("from outside", desk.axis(axis, 4), 100000);
            Check.due("the angle stays", desk.axis(axis, 0), 0);
            Check.due("it is no tick", desk.time(), 0);
        }
    }

    /** A desk with a wish at an axis of just D * (wanted rate), without a cut. */
    private static WheelDesk lawful(int p, int d, int rateLimit, int torqueLimit) {
        WheelDesk desk = Desks.threeWheels();
        desk.set(0, p);
        desk.set(1, d);
        desk.set(2, rateLimit);
        desk.set(3, torqueLimit);
        return desk;
    }

    private static void wish(String name, WheelDesk desk, int target, int due) {
        for (int axis = 0; axis < 3; axis++) {
            desk.setAxis(axis, 1, target);
            desk.tick(1);
            Check.due(name + ", target " + target + " at " + axis, desk.axis(axis, 9), due);
            Check.due("no wish elsewhere", desk.axis((axis + 1) % 3, 9) + desk.axis((axis + 2) % 3, 9), 0);
            desk.undo();
            desk.undo();
        }
    }

    /** "Brought into the range of minus the rate limit to the rate limit." */
    private static void rateLimit() {
        for (int limit : new int[] {1, 500, 10000}) {
            WheelDesk desk = lawful(100, 1, limit, 100000);
            String name = "rate limit " + limit;
            wish(name, desk, limit - 1, limit - 1);
            wish(name, desk, limit, limit);
            wish(name, desk, limit + 1, limit);
            wish(name, desk, 1000000, limit);
            wish(name, desk, 1 - limit, 1 - limit);
            wish(name, desk, -limit, -limit);
            wish(name, desk, -limit - 1, -limit);
            wish(name, desk, -1000000, -limit);
        }
    }

    /** "The wanted rate is P * (target - angle) / 100", rounded down. */
    private static void gainP() {
        wish("P 0", lawful(0, 1, 10000, 100000), 1000000, 0);
        wish("P 0", lawful(0, 1, 10000, 100000), -1000000, 0);
        WheelDesk desk = lawful(1, 1, 10000, 100000);
        wish("P 1", desk, 99, 0);
        wish("P 1", desk, 100, 1);
        wish("P 1", desk, 199, 1);
        wish("P 1", desk, -1, -1);
        wish("P 1", desk, -100, -1);
        wish("P 1", desk, -101, -2);
        wish("P 1000", lawful(1000, 1, 10000, 100000), 999, 9990);
        wish("P 1000", lawful(1000, 1, 10000, 100000), 1000, 10000);
        wish("P 1000", lawful(1000, 1, 10000, 100000), 1001, 10000);
        wish("P 1000", lawful(1000, 1, 10000, 100000), -1000, -10000);
        wish("P 1000", lawful(1000, 1, 10000, 100000), 1000000, 10000);
    }

    /** "Brought into the range of minus the torque limit to the torque limit." */
    private static void torqueLimit() {
        for (int limit : new int[] {1, 2000, 9999}) {
            WheelDesk desk = lawful(100, 1, 10000, limit);
            String name = "torque limit " + limit;
            wish(name, desk, limit - 1, limit - 1);
            wish(name, desk, limit, limit);
            wish(name, desk, limit + 1, limit);
            wish(name, desk, 1 - limit, 1 - limit);
            wish(name, desk, -limit, -limit);
            wish(name, desk, -limit - 1, -limit);
        }
        WheelDesk desk = lawful(100, 1000, 10000, 100000);
        wish("torque limit 100000", desk, 99, 99000);
        wish("torque limit 100000", desk, 100, 100000);
        wish("torque limit 100000", desk, 101, 100000);
        wish("torque limit 100000", desk, -100, -100000);
        wish("torque limit 100000", desk, -101, -100000);
        wish("torque limit 100000", desk, 1000000, 100000);
    }

    /** "The wish is D * (wanted rate - rate)": what a limit of the rate leaves is not what one of the torque does. */
    private static void gainD() {
        wish("D 0", lawful(100, 0, 10000, 100000), 1000000, 0);
        wish("D 1000", lawful(100, 1000, 10000, 100000), 7, 7000);
        for (int axis = 0; axis < 3; axis++) {
            WheelDesk desk = lawful(100, 60, 500, 100000);
            desk.strike(axis, 30000);
            desk.tick(1);
            Check.due("60 * (0 - 300)", desk.axis(axis, 9), -18000);
            desk.undo();
            desk.setAxis(axis, 1, 700);
            desk.tick(1);
            Check.due("60 * (500 - 300)", desk.axis(axis, 9), 12000);
            desk.undo();
            desk.set(1, 0);
            desk.strike(axis, -30001);
            Check.due("D 0: the tick is met", desk.tick(1), 1);
            Check.due("D 0: no wish", desk.axis(axis, 9), 0);
            Check.due("D 0: it drifts", desk.axis(axis, 0), -1);
        }
    }

    private static void farTargets() {
        for (int axis = 0; axis < 3; axis++) {
            WheelDesk desk = lawful(1000, 1000, 10000, 100000);
            desk.setAxis(axis, 1, -1000000);
            desk.strike(axis, 100000);
            desk.setAxis(axis, 0, 1);
            desk.tick(200);
            Check.due("the whole momentum stays", desk.axis(axis, 3), 100000);
            desk.setAxis(axis, 1, 1000000);
            desk.tick(200);
            Check.due("the whole momentum stays", desk.axis(axis, 3), 100000);
        }
    }

    /** The torque at axis 2 of a field along axis 0, where the wheel 2 holds some momentum. */
    private static void letGo(int held, int field, int limit, int due) {
        WheelDesk desk = Desks.loaded(new int[] {0, 0, held}, new int[] {field, 0, 0}, limit);
        long before = desk.axis(2, 4);
        desk.tick(1);
        String name = held + " in the field " + field + ", limit " + limit;
        Check.due(name + ": momentum of the craft", desk.axis(2, 1), due);
        Check.due(name + ": from outside", desk.axis(2, 4), before + due);
        Check.due(name + ": the whole momentum", desk.axis(2, 3), before + due);
        Check.due(name + ": the wheel keeps it", desk.wheel(2, 3), held);
    }

    /** "Each component divided by 1000 and brought into the range of minus the limit to the limit." */
    private static void magnetLimit() {
        letGo(4000, 100, 0, 0);
        letGo(4000, 0, 10000, 0);
        letGo(4000, 100, 1, -1);
        letGo(4000, 100, 399, -399);
        letGo(4000, 100, 400, -400);
        letGo(4000, 100, 401, -400);
        letGo(4000, 100, 10000, -400);
        letGo(-4000, 100, 399, 399);
        letGo(-4000, 100, 400, 400);
        letGo(-4000, 100, 401, 400);
        letGo(4000, -100, 399, -399);
        letGo(4000, -100, 401, -400);
        letGo(99900, 100, 10000, -9990);
        letGo(100000, 100, 10000, -10000);
        letGo(-100000, -100, 10000, 10000);
        beyondTheGreatestMoment();
    }

    private static void beyondTheGreatestMoment() {
        WheelDesk desk = Desks.loaded(new int[] {0, 0, 100000}, new int[] {0, 0, 0}, 10000);
        desk.set(1, 100);
        desk.strike(2, 100);
        desk.tick(1);
        desk.setAxis(0, 2, 100);
        Check.due("what the wheel holds", desk.wheel(2, 3), 100100);
        desk.set(1, 0);
        desk.tick(1);
        Check.due("a moment of 10010 is cut to 10000", desk.axis(2, 1), -10000);
    }

    private static void momentRoundsDown() {
        // m(1) = held * field / 1000; a field of 100 lets the torque be -m(1)
        letGo(900, 1, 10000, 0);
        letGo(1000, 1, 10000, -1);
        letGo(100, 100, 10000, -10);
        letGo(-100, 1, 10000, 0);
        letGo(-1000, 1, 10000, 0);
        letGo(-100, 100, 10000, 10);
        letGo(-100, 9, 10000, 0);
        letGo(100, -11, 10000, -1);
        letGo(500, 3, 10000, -1);
        letGo(-500, 99, 10000, 49);
    }

    private static void torqueRoundsDown() {
        letGo(10000, 3, 10000, -1);
        letGo(10000, 31, 10000, -97);
        letGo(-10000, 3, 10000, 0);
        letGo(-10000, 31, 10000, 96);
        letGo(-100000, 10, 10000, 100);
        letGo(100000, 10, 10000, -100);
        letGo(100000, 10, 999, -100);
        letGo(-100000, 10, 999, 99);
    }

    /** "The vector product of h and B (m(0) = h(1) * B(2) - h(2) * B(1), and so on around)." */
    private static void fieldAround() {
        for (int axis = 0; axis < 3; axis++) {
            int next = (axis + 1) % 3;
            int last = (axis + 2) % 3;
            int[] held = new int[3];
            int[] field = new int[3];
            held[next] = 4000;
            field[next] = 50;
            field[last] = 100;
            WheelDesk desk = Desks.loaded(held, field, 10000);
            desk.tick(1);
            // m = 400 at the axis alone
            Check.due("nothing at the moment's axis " + axis, desk.axis(axis, 1), 0);
            Check.due("minus m * B(last) / 100", desk.axis(next, 1), -400);
            Check.due("m * B(next) / 100", desk.axis(last, 1), 200);
            held[next] = 0;
            held[axis] = 4000;
            desk = Desks.loaded(held, field, 10000);
            desk.tick(1);
            // m = (0, -400, 200) from the axis on; 200 * 50 + 400 * 100, each / 100
            Check.due("across the field at " + axis, desk.axis(axis, 1), -500);
            Check.due("across the field at next", desk.axis(next, 1), 0);
            Check.due("across the field at last", desk.axis(last, 1), 0);
        }
        WheelDesk along = Desks.loaded(new int[] {3000, -6000, 9000}, new int[] {10, -20, 30}, 10000);
        along.tick(1);
        for (int axis = 0; axis < 3; axis++) {
            Check.due("along the field nothing is let go", along.axis(axis, 1), 0);
        }
    }

    /** "By the momenta of the wheels as they are then": behind the sharing, and of failed wheels, too. */
    private static void momentaAsTheyAreThen() {
        WheelDesk desk = Desks.threeWheels();
        desk.set(0, 0);
        desk.set(1, 100);
        desk.set(3, 100000);
        desk.set(4, 10000);
        desk.setAxis(0, 2, 100);
        desk.strike(2, 4000);
        desk.tick(1);
        Check.due("the wheel takes it up", desk.wheel(2, 3), 4000);
        Check.due("and lets it go in the same tick", desk.axis(2, 1), -400);
        desk.fail(2, true);
        desk.tick(1);
        Check.due("also when it has failed", desk.axis(2, 1), -800);
        desk.fail(0, true);
        desk.fail(1, true);
        desk.tick(1);
        Check.due("also when all have failed", desk.axis(2, 1), -1200);
        Check.due("the wheel keeps its momentum", desk.wheel(2, 3), 4000);
    }

    /** "Then each angle grows by the rate as it is then": behind the wheels, the magnets and the disturbance. */
    private static void angleByTheRateThen() {
        for (int axis = 0; axis < 3; axis++) {
            WheelDesk desk = new WheelDesk();
            desk.setAxis(axis, 3, 100);
            desk.tick(1);
            Check.due("by the disturbance of the same tick", desk.axis(axis, 0), 1);
            desk = Desks.direct(1000, 1000);
            desk.strike(axis, 700);
            desk.tick(1);
            Check.due("by what the wheels left", desk.axis(axis, 0), 0);
        }
        WheelDesk desk = Desks.loaded(new int[] {0, 0, 4000}, new int[] {100, 0, 0}, 10000);
        desk.tick(1);
        Check.due("by the magnets of the same tick", desk.axis(2, 0), -4);
        desk.setAxis(2, 3, 500);
        desk.tick(1);
        Check.due("by both", desk.axis(2, 0), -4 - 3);
        Check.due("both came from outside", desk.axis(2, 4), 4000 - 400 - 400 + 500);
    }

    private static void disturbance() {
        for (int axis = 0; axis < 3; axis++) {
            for (int by : new int[] {-1000, -1, 0, 1, 1000}) {
                WheelDesk desk = new WheelDesk();
                desk.setAxis(axis, 3, by);
                Check.due("nothing before a tick", desk.axis(axis, 1), 0);
                desk.tick(200);
                Check.due("disturbance " + by, desk.axis(axis, 1), 200L * by);
                Check.due("disturbance " + by + " from outside", desk.axis(axis, 4), 200L * by);
                Check.due("disturbance " + by + " elsewhere", desk.axis((axis + 1) % 3, 4), 0);
                Check.due("disturbance " + by + " elsewhere", desk.axis((axis + 2) % 3, 4), 0);
            }
        }
    }

    /** "The time grows by 1"; from 1 to 200 ticks are one act. */
    private static void ticks() {
        for (int ticks : new int[] {1, 2, 199, 200}) {
            WheelDesk desk = Desks.threeWheels();
            Check.due("time() before", desk.time(), 0);
            Check.due("tick(" + ticks + ")", desk.tick(ticks), ticks);
            Check.due("time() behind", desk.time(), ticks);
            Check.due("one act", desk.undo(), 3);
            Check.due("time() undone", desk.time(), 0);
        }
        WheelDesk once = Desks.busy();
        WheelDesk often = Desks.busy();
        int met = 0;
        for (int i = 0; i < 200; i++) {
            met += often.tick(1);
        }
        Check.due("200 ticks at once are 200 ticks", once.tick(200), met);
        Check.due("200 ticks at once are 200 ticks", once.fingerprint(), often.fingerprint());
    }

    /** "STATE if the time would be greater than 50000." */
    private static void greatestTime() {
        WheelDesk desk = Desks.aged(49800);
        Check.due("to the greatest time", desk.tick(200), 200);
        Check.due("time()", desk.time(), 50000);
        Check.due("no tick more", desk.tick(1), WheelDesk.STATE);
        Check.due("time() stays", desk.time(), 50000);
        Check.due("other acts are possible", desk.strike(0, 100), 1);
        Check.due("no tick more", desk.tick(1), WheelDesk.STATE);
        Check.due("the strike is undone", desk.undo(), 3);
        Check.due("the ticks are undone", desk.undo(), 2);
        Check.due("time() again", desk.time(), 49800);
        Check.due("one less", desk.tick(199), 199);
        Check.due("two are too many", desk.tick(2), WheelDesk.STATE);
        Check.due("time()", desk.time(), 49999);
        Check.due("the last one", desk.tick(1), 1);
        Check.due("time()", desk.time(), 50000);
    }
}
