/** "SHARING", "MET" and "WHY": a test for each sentence that names an edge; the numbers are worked out by hand. */
public final class SharingEdgesTest {
    private static final int NONE = WheelDesk.NONE;

    public static void main(String[] args) {
        noSpanNoTorque();
        nearest();
        aWishBeyondTheTorque();
        greatestTorque();
        greatestMomentum();
        beyondAbove();
        beyondBelow();
        bothLimits();
        failedWheelGetsNothing();
        momentumGoesOver();
        met();
        whyBeforeAnyTick();
        whyWithoutSpan();
        whyTheFirstWheel();
        whyStays();
        gotIsOfTheLatestTick();
        Check.end();
    }

    private static void chain(String name, WheelDesk desk, int first, int second, int third) {
        Check.due(name + ": why(0)", desk.why(0), first);
        Check.due(name + ": why(1)", desk.why(1), second);
        Check.due(name + ": why(2)", desk.why(2), third);
        Check.due(name + ": why(3)", desk.why(3), NONE);
    }

    /** "If D is 0, the wheels do not span: no wheel gets a torque." */
    private static void noSpanNoTorque() {
        noTorque("no wheel", new WheelDesk());
        WheelDesk one = new WheelDesk();
        one.addWheel(1, 2, 3, 100, 100);
        noTorque("one wheel", one);
        WheelDesk two = new WheelDesk();
        two.addWheel(1, 0, 0, 100, 100);
        two.addWheel(0, 1, 0, 100, 100);
        noTorque("two wheels", two);
        WheelDesk line = new WheelDesk();
        for (int k = 1; k <= 3; k++) {
            line.addWheel(k, k, -k, 100, 100);
        }
        noTorque("three in a line", line);
        noTorque("six in a plane", Desks.flat());
        noTorque("all failed", Desks.allFailed());
        WheelDesk three = Desks.threeWheels();
        Check.due("three wheels span", three.span(), 1);
        three.fail(2, true);
        noTorque("one of three failed", three);
    }

    private static void noTorque(String name, WheelDesk desk) {
        for (int axis = 0; axis < 3; axis++) {
            desk.setAxis(axis, 1, 3000);
            desk.strike(axis, 1000);
        }
        Check.due(name + ": span()", desk.span(), 0);
        Check.due(name + ": met", desk.tick(2), 0);
        Check.due(name + ": why(0)", desk.why(0), 1);
        for (int k = 0; k < desk.wheels(); k++) {
            Check.due(name + ": torque of " + k, desk.wheel(k, 7), 0);
            Check.due(name + ": momentum of " + k, desk.wheel(k, 3), 0);
        }
        for (int axis = 0; axis < 3; axis++) {
            Check.due(name + ": the craft keeps its momentum", desk.axis(axis, 1), 1000);
            Check.due(name + ": the wish is found all the same", desk.axis(axis, 9), 2000);
        }
    }

    /** "NEAREST(a, b) is (2 * a + b) / (2 * b), rounded down": a half goes up. */
    private static void nearest() {
        nearestOf(3, new int[] {-5, -4, -2, -1, 0, 1, 2, 4, 5}, new int[] {2, 1, 1, 0, 0, 0, -1, -1, -2});
        nearestOf(4, new int[] {-7, -6, -5, -3, -2, -1}, new int[] {2, 2, 1, 1, 1, 0});
        nearestOf(4, new int[] {1, 2, 3, 5, 6, 7}, new int[] {0, 0, -1, -1, -1, -2});
        nearestOf(-4, new int[] {-6, -2, -1, 1, 2, 6}, new int[] {-1, 0, 0, 0, 1, 2});
        nearestOf(9, new int[] {-5, -4, 4, 5, 100000}, new int[] {1, 0, 0, -1, -11111});
        WheelDesk desk = Desks.direct(1000, 1000);
        desk.addWheel(1, 0, 0, 1000, 1000);
        desk.strike(0, 1);
        Check.due("each of two takes the nearest of a half", desk.tick(1), 1);
        Check.due("up", desk.wheel(0, 7), 1);
        Check.due("up", desk.wheel(3, 7), 1);
        Check.due("so the craft turns round", desk.axis(0, 1), -1);
        desk.tick(1);
        Check.due("the nearest of minus a half", desk.wheel(0, 7), 0);
        Check.due("it is met, though the craft got nothing", desk.why(0), 0);
    }

    private static void nearestOf(int direction, int[] torque, int[] due) {
        WheelDesk desk = new WheelDesk();
        desk.addWheel(0, direction, 0, 1, 1);
        desk.addWheel(1, 0, 0, 1, 1);
        desk.addWheel(0, 0, 1, 1, 1);
        for (int i = 0; i < torque.length; i++) {
            Check.due("nearest of -" + torque[i] + " / " + direction, desk.wish(0, 9, torque[i], -9), due[i]);
        }
    }

    /** w0 + w1 = -t0 and w1 = -t1: a wheel can wish more than any one may give. */
    private static void aWishBeyondTheTorque() {
        WheelDesk desk = new WheelDesk();
        desk.addWheel(1, 0, 0, 1000000, 100000);
        desk.addWheel(1, 1, 0, 1000000, 100000);
        desk.addWheel(0, 0, 1, 1000000, 100000);
        Check.due("without its limits", desk.wish(0, 100000, -100000, 0), -200000);
        Check.due("without its limits", desk.wish(0, -100000, 100000, 0), 200000);
        Check.due("the greatest one", desk.wish(1, 100000, -100000, 0), 100000);
        for (int axis = 0; axis < 3; axis++) {
            desk.setAxis(axis, 0, 1);
        }
        desk.set(0, 0);
        desk.set(1, 1);
        desk.set(3, 100000);
        desk.strike(0, -100000);
        desk.strike(1, 100000);
        desk.tick(1);
        Check.due("wheel 0 is cut", desk.wheel(0, 7), -100000);
        Check.due("wheel 1 is not", desk.wheel(1, 7), 100000);
        chain("wheel 0 is cut", desk, 2, 20, 4);
        Check.due("the craft at 0", desk.axis(0, 1), -100000);
        Check.due("the craft at 1", desk.axis(1, 1), 0);
    }

    /** The wheel k of a direct desk wishes `wished`, and gets `got`; reason 0: it is met. */
    private static void give(WheelDesk desk, int k, int wished, int got, int reason) {
        String name = "wheel " + k + " with " + desk.wheel(k, 3) + " of " + desk.wheel(k, 4) + ", torque "
                + desk.wheel(k, 5) + ", wishes " + wished;
        int before = desk.wheel(k, 3);
        desk.strike(k, (int) (wished - desk.axis(k, 1)));
        Check.due(name + ": met", desk.tick(1), reason == 0 ? 1 : 0);
        Check.due(name + ": the wish of the law", desk.axis(k, 9), -wished);
        Check.due(name + ": got", desk.wheel(k, 7), got);
        Check.due(name + ": wheel", desk.wheel(k, 3), before + got);
        Check.due(name + ": craft", desk.axis(k, 1), wished - got);
        chain(name, desk, reason == 0 ? 0 : 2, reason == 0 ? NONE : 20 + k, reason == 0 ? NONE : reason);
        desk.strike(k, (int) -desk.axis(k, 1));
    }

    /** "Each wheel gets its wish, but at most its greatest torque and at least minus that." */
    private static void greatestTorque() {
        int[] greatest = {1, 50, 99999};
        for (int k = 0; k < 3; k++) {
            for (int most : greatest) {
                WheelDesk desk = Desks.direct(1000000, most);
                give(desk, k, 0, 0, 0);
                give(desk, k, most - 1, most - 1, 0);
                give(desk, k, most, most, 0);
                give(desk, k, most + 1, most, 4);
                give(desk, k, 1 - most, 1 - most, 0);
                give(desk, k, -most, -most, 0);
                give(desk, k, -most - 1, -most, 4);
            }
            WheelDesk desk = Desks.direct(1000000, 100000);
            give(desk, k, 100000, 100000, 0);
            give(desk, k, -100000, -100000, 0);
        }
    }

    /** "And of this as much as keeps its momentum from minus its greatest momentum to its greatest momentum." */
    private static void greatestMomentum() {
        for (int k = 0; k < 3; k++) {
            for (int most : new int[] {1, 70, 49999}) {
                WheelDesk desk = Desks.direct(most, 100000);
                give(desk, k, most - 1, most - 1, 0);
                give(desk, k, 1, 1, 0);
                give(desk, k, 1, 0, 3);
                give(desk, k, 0, 0, 0);
                give(desk, k, -2 * most, -2 * most, 0);
                give(desk, k, -1, 0, 3);
                give(desk, k, 0, 0, 0);
                give(desk, k, 2 * most, 2 * most, 0);
                give(desk, k, -2 * most - 1, -2 * most, 3);
                give(desk, k, 2 * most + 1, 2 * most, 3);
                give(desk, k, -most, -most, 0);
                give(desk, k, most + 1, most, 3);
                give(desk, k, -most, -most, 0);
                give(desk, k, -most - 1, -most, 3);
            }
            for (int sign = -1; sign <= 1; sign += 2) {
                WheelDesk desk = Desks.direct(1000000, 100000);
                for (int i = 0; i < 10; i++) {
                    give(desk, k, sign * 100000, sign * 100000, 0);
                }
                Check.due("the farthest momentum that there is", desk.wheel(k, 3), sign * 1000000);
                give(desk, k, sign, 0, 3);
                give(desk, k, -sign, -sign, 0);
                give(desk, k, 2 * sign, sign, 3);
            }
        }
    }

    private static WheelDesk holding(int k, int held, int most, int torque) {
        WheelDesk desk = Desks.direct(1000000, 100000);
        give(desk, k, held, held, 0);
        desk.setMost(k, false, most);
        desk.setMost(k, true, torque);
        return desk;
    }

    /**
     * "If its momentum is beyond, because the greatest one was set lower: no torque that brings it further away, and
     * as much of one that brings it back as does not carry it beyond the other end, within the greatest torque."
     */
    private static void beyondAbove() {
        for (int k = 0; k < 3; k++) {
            give(holding(k, 100, 99, 500), k, 1, 0, 3);
            give(holding(k, 100, 99, 500), k, 500, 0, 3);
            give(holding(k, 100, 99, 500), k, 501, 0, 3);
            give(holding(k, 100, 99, 500), k, 0, 0, 0);
            give(holding(k, 100, 40, 500), k, -1, -1, 0);
            give(holding(k, 100, 40, 500), k, -59, -59, 0);
            give(holding(k, 100, 40, 500), k, -60, -60, 0);
            give(holding(k, 100, 40, 500), k, -100, -100, 0);
            give(holding(k, 100, 40, 500), k, -139, -139, 0);
            give(holding(k, 100, 40, 500), k, -140, -140, 0);
            give(holding(k, 100, 40, 500), k, -141, -140, 3);
            give(holding(k, 100, 40, 500), k, -100000, -140, 3);
            give(holding(k, 100, 40, 20), k, -20, -20, 0);
            give(holding(k, 100, 40, 20), k, -21, -20, 4);
            give(holding(k, 100, 40, 20), k, 21, 0, 3);
            give(holding(k, 100, 1, 500), k, -102, -101, 3);
            WheelDesk desk = holding(k, 100, 40, 500);
            Check.due("its momentum stays", desk.wheel(k, 3), 100);
            desk.tick(3);
            Check.due("it is not forced back", desk.wheel(k, 3), 100);
            give(desk, k, -5, -5, 0);
            give(desk, k, 1, 0, 3);
            desk.setMost(k, false, 95);
            give(desk, k, 1, 0, 3);
            desk.setMost(k, false, 96);
            give(desk, k, 2, 1, 3);
        }
    }

    private static void beyondBelow() {
        for (int k = 0; k < 3; k++) {
            give(holding(k, -100, 99, 500), k, -1, 0, 3);
            give(holding(k, -100, 99, 500), k, -501, 0, 3);
            give(holding(k, -100, 99, 500), k, 0, 0, 0);
            give(holding(k, -100, 40, 500), k, 1, 1, 0);
            give(holding(k, -100, 40, 500), k, 60, 60, 0);
            give(holding(k, -100, 40, 500), k, 140, 140, 0);
            give(holding(k, -100, 40, 500), k, 141, 140, 3);
            give(holding(k, -100, 40, 500), k, 100000, 140, 3);
            give(holding(k, -100, 40, 20), k, 20, 20, 0);
            give(holding(k, -100, 40, 20), k, 21, 20, 4);
            give(holding(k, -100, 40, 20), k, -21, 0, 3);
            give(holding(k, -100, 1, 500), k, 102, 101, 3);
        }
    }

    /** "If what its greatest torque allows is what it got: 4, otherwise 3." */
    private static void bothLimits() {
        for (int k = 0; k < 3; k++) {
            give(holding(k, 60, 100, 39), k, 50, 39, 4);
            give(holding(k, 60, 100, 40), k, 50, 40, 4);
            give(holding(k, 60, 100, 41), k, 50, 40, 3);
            give(holding(k, -60, 100, 39), k, -50, -39, 4);
            give(holding(k, -60, 100, 40), k, -50, -40, 4);
            give(holding(k, -60, 100, 41), k, -50, -40, 3);
            give(holding(k, 100, 40, 139), k, -900, -139, 4);
            give(holding(k, 100, 40, 140), k, -900, -140, 4);
            give(holding(k, 100, 40, 141), k, -900, -140, 3);
            give(holding(k, -100, 40, 140), k, 900, 140, 4);
            give(holding(k, -100, 40, 141), k, 900, 140, 3);
        }
    }

    /** "A failed wheel keeps its momentum and gets no torques." */
    private static void failedWheelGetsNothing() {
        for (int k = 0; k < 6; k++) {
            WheelDesk desk = Desks.pairs();
            int axis = k % 3;
            desk.setAxis(axis, 1, 400);
            desk.tick(1);
            Check.due("half each", desk.wheel(k, 7), -1000);
            desk.fail(k, true);
            Check.due("the torque that it got is told still", desk.wheel(k, 7), -1000);
            desk.tick(1);
            int other = (k + 3) % 6;
            // 60 * (10 * (400 - 20) / 100 - 20) = 1080
            Check.due("it gets nothing, though the others span", desk.wheel(k, 7), 0);
            Check.due("it keeps its momentum", desk.wheel(k, 3), -1000);
            Check.due("the other one gets it all", desk.wheel(other, 7), -1080);
            Check.due("the wish is met without it", desk.why(0), 0);
            desk.fail(k, false);
            desk.tick(1);
            Check.due("it works again", desk.wheel(k, 7), desk.wheel(other, 7));
            Check.due("its momentum goes on from there", desk.wheel(k, 3), -1000 + desk.wheel(k, 7));
        }
    }

    /** "A torque w changes its momentum by w, and the momentum of the craft at each axis by minus direction * w." */
    private static void momentumGoesOver() {
        WheelDesk desk = Desks.busy();
        desk.fail(3, false);
        desk.set(4, 0);
        desk.setAxis(2, 3, 0);
        for (int i = 0; i < 6; i++) {
            long[] craft = {desk.axis(0, 1), desk.axis(1, 1), desk.axis(2, 1)};
            int[] held = {desk.wheel(0, 3), desk.wheel(1, 3), desk.wheel(2, 3), desk.wheel(3, 3)};
            desk.tick(1);
            for (int k = 0; k < 4; k++) {
                Check.due("wheel " + k, desk.wheel(k, 3), held[k] + desk.wheel(k, 7));
                for (int axis = 0; axis < 3; axis++) {
                    craft[axis] -= (long) desk.wheel(k, axis) * desk.wheel(k, 7);
                }
            }
            for (int axis = 0; axis < 3; axis++) {
                long whole = desk.axis(axis, 1);
                for (int k = 0; k < 4; k++) {
                    whole += (long) desk.wheel(k, axis) * desk.wheel(k, 3);
                }
                Check.due("craft at " + axis, desk.axis(axis, 1), craft[axis]);
                Check.due("the whole momentum at " + axis, desk.axis(axis, 3), whole);
                Check.due("which came from outside", desk.axis(axis, 4), whole);
            }
        }
    }

    /** "A wish is MET if the wheels span (also if it is 0 at all axes), and each that works got what it wished." */
    private static void met() {
        Check.due("0 at all axes, they span", Desks.threeWheels().tick(200), 200);
        Check.due("0 at all axes, no wheels", new WheelDesk().tick(200), 0);
        Check.due("0 at all axes, in a plane", Desks.flat().tick(1), 0);
        Check.due("0 at all axes, all failed", Desks.allFailed().tick(1), 0);
        for (int k = 0; k < 3; k++) {
            WheelDesk desk = Desks.direct(1000000, 100);
            desk.strike(k, 300);
            Check.due("cut, cut, got", desk.tick(3), 1);
            chain("the latest one is told", desk, 0, NONE, NONE);
            desk.undo();
            Check.due("cut, cut", desk.tick(2), 0);
            chain("the latest one is told", desk, 2, 20 + k, 4);
            desk.undo();
            desk.fail(k, true);
            desk.addWheel(k == 0 ? 1 : 0, k == 1 ? 1 : 0, k == 2 ? 1 : 0, 1000000, 100000);
            Check.due("a failed one does not count", desk.tick(3), 3);
        }
    }

    private static void whyBeforeAnyTick() {
        chain("new", new WheelDesk(), 0, NONE, NONE);
        chain("acts, but no tick", Desks.allFailed(), 0, NONE, NONE);
        WheelDesk desk = Desks.flat();
        desk.tick(1);
        desk.undo();
        chain("no tick again", desk, 0, NONE, NONE);
    }

    /** "The reason 10 plus k for the wheel k with the smallest number that was a failed one, if there was one." */
    private static void whyWithoutSpan() {
        WheelDesk none = new WheelDesk();
        none.tick(1);
        chain("no wheels", none, 1, NONE, NONE);
        WheelDesk flat = Desks.flat();
        flat.tick(1);
        chain("none failed", flat, 1, NONE, NONE);
        for (int k = 0; k < 6; k++) {
            WheelDesk desk = Desks.flat();
            desk.fail(k, true);
            desk.tick(1);
            chain("wheel " + k + " alone", desk, 1, 10 + k, NONE);
            for (int other = k + 1; other < 6; other++) {
                desk.fail(other, true);
            }
            desk.tick(1);
            chain("wheels from " + k + " on", desk, 1, 10 + k, NONE);
            desk.fail(k, false);
            desk.tick(1);
            chain("wheels behind " + k, desk, 1, k == 5 ? NONE : 11 + k, NONE);
        }
        WheelDesk all = Desks.allFailed();
        all.tick(1);
        chain("all failed", all, 1, 10, NONE);
    }

    /** "2 a wheel got something else than it wished; then at depth 1 the reason 20 plus k for the first such one." */
    private static void whyTheFirstWheel() {
        for (int k = 0; k < 6; k++) {
            WheelDesk desk = Desks.pairs();
            for (int axis = 0; axis < 3; axis++) {
                desk.setAxis(axis, 1, 1000);
            }
            desk.setMost(k, true, 7);
            desk.tick(1);
            chain("wheel " + k + " alone", desk, 2, 20 + k, 4);
            desk.setMost(k, true, 100000);
            desk.setMost(k, false, 1);
            desk.tick(1);
            chain("wheel " + k + " alone, by its momentum", desk, 2, 20 + k, 3);
            for (int other = k + 1; other < 6; other++) {
                desk.setMost(other, true, 1);
            }
            desk.tick(1);
            chain("wheels from " + k + " on", desk, 2, 20 + k, 3);
            desk.fail(k, true);
            desk.tick(1);
            chain("a failed one is not told", desk, k == 5 ? 0 : 2, k == 5 ? NONE : 21 + k, k == 5 ? NONE : 4);
        }
    }

    /** "What is told of the latest tick stays." */
    private static void whyStays() {
        WheelDesk desk = Desks.pairs();
        desk.setAxis(1, 1, 1000);
        desk.setMost(4, true, 7);
        desk.tick(1);
        desk.fail(4, true);
        chain("the wheel fails", desk, 2, 24, 4);
        desk.fail(0, true);
        desk.fail(3, true);
        Check.due("they do not span now", desk.span(), 0);
        chain("they do not span now", desk, 2, 24, 4);
        Check.due("the wish stays", desk.axis(1, 9), 2000);
        Check.due("the torque stays", desk.wheel(4, 7), -7);
        desk.tick(1);
        chain("a tick", desk, 1, 10, NONE);
        desk.fail(0, false);
        chain("the wheel works again", desk, 1, 10, NONE);
        desk.setMost(4, true, 100000);
        chain("a limit is set", desk, 1, 10, NONE);
        desk.tick(1);
        chain("a tick", desk, 0, NONE, NONE);
    }

    /** "0 if there was none since it was added, if it was a failed one then, or if the wheels did not span." */
    private static void gotIsOfTheLatestTick() {
        WheelDesk desk = Desks.threeWheels();
        desk.setAxis(0, 1, 2000);
        desk.tick(1);
        Check.due("it got", desk.wheel(0, 7), -2000);
        Check.due("another one", desk.wheel(1, 7), 0);
        Check.due("added", desk.addWheel(2, 0, 0, 1000, 1000), 3);
        Check.due("no tick since it was added", desk.wheel(3, 7), 0);
        Check.due("what another one got is told still", desk.wheel(0, 7), -2000);
        desk.tick(1);
        Check.due("the fourth one got some", desk.wheel(3, 7) != 0 ? 1 : 0, 1);
        Check.due("added behind it", desk.addWheel(3, 0, 0, 1000, 1000), 4);
        Check.due("no tick since it was added", desk.wheel(4, 7), 0);
        desk.undo();
        Check.due("a tick since it was added", desk.wheel(3, 7) != 0 ? 1 : 0, 1);
        int got = desk.wheel(3, 7);
        desk.fail(3, true);
        Check.due("it has failed since", desk.wheel(3, 7), got);
        desk.tick(1);
        Check.due("it was a failed one", desk.wheel(3, 7), 0);
        desk.fail(3, false);
        Check.due("it was a failed one then", desk.wheel(3, 7), 0);
        desk.undo();
        desk.undo();
        Check.due("the tick is undone", desk.wheel(3, 7), got);
        desk.fail(1, true);
        desk.tick(1);
        Check.due("the wheels did not span", desk.wheel(3, 7), 0);
        Check.due("the wheels did not span", desk.wheel(0, 7), 0);
    }
}
