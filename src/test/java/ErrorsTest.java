import java.util.function.Supplier;

/**
 * "A call that returns an error changes nothing. If several errors apply to a call, the one listed first is
 * returned." Both for every error of every call; and every constant.
 */
public final class ErrorsTest {
    private static final int BAD = WheelDesk.BAD;
    private static final int STATE = WheelDesk.STATE;
    private static final int FULL = WheelDesk.FULL;
    private static final int NONE = WheelDesk.NONE;
    private static final long ERROR = Check.ERROR;

    public static void main(String[] args) {
        badIsBeforeFull();
        fullIsFull();
        badIsBeforeState();
        stateChangesNothing();
        badIsBeforeNone();
        noneChangesNothing();
        theLongError();
        everyErrorOnEveryDesk();
        Check.end();
    }

    /** There are six wheels, so that FULL applies to each of these, too. */
    private static void badIsBeforeFull() {
        int[][] wrong = {
            {10, 1, 1, 5, 5}, {-10, 1, 1, 5, 5}, {1, 10, 1, 5, 5}, {1, -10, 1, 5, 5}, {1, 1, 10, 5, 5},
            {1, 1, -10, 5, 5}, {0, 0, 0, 5, 5}, {1, 1, 1, 0, 5}, {1, 1, 1, 1000001, 5}, {1, 1, 1, 5, 0},
            {1, 1, 1, 5, 100001}, {10, 10, 10, 0, 0}};
        for (int[] w : wrong) {
            String name = "addWheel" + java.util.Arrays.toString(w);
            Check.refuses(name + " at six", Desks::full, d -> d.addWheel(w[0], w[1], w[2], w[3], w[4]), BAD);
            Check.refuses(name + " at none", WheelDesk::new, d -> d.addWheel(w[0], w[1], w[2], w[3], w[4]), BAD);
        }
    }

    private static void fullIsFull() {
        Check.refuses("a seventh", Desks::full, d -> d.addWheel(1, 1, 1, 5, 5), FULL);
        Check.refuses("a seventh of the least", Desks::full, d -> d.addWheel(-9, -9, -9, 1, 1), FULL);
        Check.refuses("a seventh of the greatest", Desks::full, d -> d.addWheel(9, 9, 9, 1000000, 100000), FULL);
        Check.refuses("failed ones are wheels, too", Desks::allFailed, d -> d.addWheel(1, 1, 1, 5, 5), FULL);
        WheelDesk desk = Desks.full();
        for (int i = 0; i < 3; i++) {
            Check.due("a seventh, again and again", desk.addWheel(1, 1, 1, 5, 5), FULL);
            Check.due("six wheels", desk.wheels(), 6);
        }
        Check.due("undo() of the sixth", desk.undo(), 3);
        Check.due("five wheels", desk.wheels(), 5);
        Check.due("room for a sixth", desk.addWheel(1, 1, 1, 5, 5), 5);
        Check.due("a seventh", desk.addWheel(1, 1, 1, 5, 5), FULL);
    }

    /** The time is the greatest one, so that STATE applies to each of these, too. */
    private static void badIsBeforeState() {
        for (int ticks : new int[] {201, 0, -1, Integer.MAX_VALUE, Integer.MIN_VALUE}) {
            Check.refuses("tick(" + ticks + ") at the end", Desks::old, d -> d.tick(ticks), BAD);
        }
    }

    private static void stateChangesNothing() {
        Check.refuses("tick(1) at 50000", Desks::old, d -> d.tick(1), STATE);
        Check.refuses("tick(200) at 50000", Desks::old, d -> d.tick(200), STATE);
        Check.refuses("tick(200) at 49801", () -> Desks.aged(49801), d -> d.tick(200), STATE);
        Check.refuses("tick(2) at 49999", () -> Desks.aged(49999), d -> d.tick(2), STATE);
        Check.acts("tick(199) at 49801", () -> Desks.aged(49801), d -> d.tick(199), 199);
        Check.acts("tick(200) at 49800", () -> Desks.aged(49800), d -> d.tick(200), 200);
        Check.acts("tick(1) at 49999", () -> Desks.aged(49999), d -> d.tick(1), 1);
    }

    /** No wheel works, and the craft never arrives, so that NONE applies to each of these, too. */
    private static void badIsBeforeNone() {
        Supplier<WheelDesk> stuck = () -> {
            WheelDesk desk = Desks.allFailed();
            desk.setAxis(0, 1, 1000000);
            desk.strike(1, 100000);
            return desk;
        };
        for (int wrong : new int[] {0, -1, 101, Integer.MAX_VALUE, Integer.MIN_VALUE}) {
            Check.refuses("gravest(" + wrong + "), all failed", stuck, d -> d.gravest(wrong), BAD);
            Check.refuses("gravest(" + wrong + "), no wheels", WheelDesk::new, d -> d.gravest(wrong), BAD);
        }
        for (int wrong : new int[] {-1, 1000001, Integer.MAX_VALUE, Integer.MIN_VALUE}) {
            Check.refuses("arrives(" + wrong + "), never", stuck, d -> d.arrives(wrong), BAD);
        }
        Check.refuses("why(-1)", stuck, d -> d.why(-1), BAD);
        Check.refuses("arrives(0), never", stuck, d -> d.arrives(0), NONE);
        Check.refuses("gravest(1), all failed", stuck, d -> d.gravest(1), NONE);
    }

    private static void noneChangesNothing() {
        Check.refuses("gravest(1), no wheels", WheelDesk::new, d -> d.gravest(1), NONE);
        Check.refuses("gravest(100), no wheels", WheelDesk::new, d -> d.gravest(100), NONE);
        Check.refuses("gravest(100), all failed", Desks::allFailed, d -> d.gravest(100), NONE);
        Check.refuses("why(1), no tick", WheelDesk::new, d -> d.why(1), NONE);
        Check.refuses("why(1), met", () -> Desks.aged(1), d -> d.why(1), NONE);
        Check.refuses("why(3), not met", Desks::busy, d -> d.why(3), NONE);
        Check.refuses("undo(), new", WheelDesk::new, d -> d.undo(), NONE);
        Check.refuses("undo(), empty history", Desks::emptied, d -> d.undo(), NONE);
        Check.refuses("arrives(0), never", Desks::busy, d -> d.arrives(0), NONE);
    }

    /** "Where a method returns a long, its error is -4611686018427387905." */
    private static void theLongError() {
        Check.refuses("strike: axis and by", Desks::busy, d -> d.strike(3, 100001), ERROR);
        Check.refuses("axis: axis and what", Desks::busy, d -> d.axis(3, 10), ERROR);
        Check.refuses("wish: all", Desks::busy, d -> d.wish(4, 100001, 100001, -100001), ERROR);
        Check.refuses("wish: failed", Desks::busy, d -> d.wish(3, 1, 1, 1), ERROR);
        Check.refuses("wish: failed, no span", Desks::allFailed, d -> d.wish(0, 1, 1, 1), ERROR);
        Check.refuses("wish: no span", Desks::flat, d -> d.wish(0, 1, 1, 1), ERROR);
        Check.refuses("wish: no span, nothing wished", Desks::flat, d -> d.wish(5, 0, 0, 0), ERROR);
        WheelDesk desk = Desks.pairs();
        Check.due("wish: it works", desk.wish(0, 8, 0, 0), -4);
        desk.fail(0, true);
        Check.due("wish: it has failed, the others span", desk.wish(0, 8, 0, 0), ERROR);
        desk.fail(0, false);
        Check.due("wish: it works again", desk.wish(0, 8, 0, 0), -4);
    }

    private static void everyErrorOnEveryDesk() {
        onDesk("new", WheelDesk::new);
        onDesk("empty history", Desks::emptied);
        onDesk("full history", Desks::busy);
        onDesk("six wheels", Desks::full);
        onDesk("all failed", Desks::allFailed);
        onDesk("in a plane", Desks::flat);
        onDesk("greatest time", Desks::old);
    }

    private static void onDesk(String name, Supplier<WheelDesk> maker) {
        Check.refuses(name + ": addWheel", maker, d -> d.addWheel(0, 0, 0, 1, 1), BAD);
        Check.refuses(name + ": fail", maker, d -> d.fail(6, true), BAD);
        Check.refuses(name + ": fail", maker, d -> d.fail(-1, false), BAD);
        Check.refuses(name + ": setMost", maker, d -> d.setMost(6, true, 1), BAD);
        Check.refuses(name + ": setMost", maker, d -> d.setMost(0, false, 0), BAD);
        Check.refuses(name + ": setMost of the torque", maker, d -> d.setMost(0, true, 100001), BAD);
        Check.refuses(name + ": wheel", maker, d -> d.wheel(6, 0), BAD);
        Check.refuses(name + ": wheel, what", maker, d -> d.wheel(0, 8), BAD);
        Check.refuses(name + ": setAxis, axis", maker, d -> d.setAxis(3, 0, 1), BAD);
        Check.refuses(name + ": setAxis, what", maker, d -> d.setAxis(0, 4, 1), BAD);
        Check.refuses(name + ": setAxis, value", maker, d -> d.setAxis(0, 0, 0), BAD);
        Check.refuses(name + ": set, what", maker, d -> d.set(5, 1), BAD);
        Check.refuses(name + ": set, value", maker, d -> d.set(2, 0), BAD);
        Check.refuses(name + ": setting", maker, d -> d.setting(5), BAD);
        Check.refuses(name + ": strike", maker, d -> d.strike(0, 100001), ERROR);
        Check.refuses(name + ": tick", maker, d -> d.tick(201), BAD);
        Check.refuses(name + ": axis", maker, d -> d.axis(0, 10), ERROR);
        Check.refuses(name + ": wish", maker, d -> d.wish(6, 0, 0, 0), ERROR);
        Check.refuses(name + ": wish, torque", maker, d -> d.wish(0, 0, 0, 100001), ERROR);
        Check.refuses(name + ": why", maker, d -> d.why(-1), BAD);
        Check.refuses(name + ": why, depth", maker, d -> d.why(3), NONE);
        Check.refuses(name + ": arrives", maker, d -> d.arrives(-1), BAD);
        Check.refuses(name + ": gravest", maker, d -> d.gravest(101), BAD);
    }
}
