/** Promises 13 to 17: what is told of the axes, the span, a wish, why it was not met, and how full the wheels are. */
public final class ToldTest {
    public static void main(String[] args) {
        axis();
        span();
        wish();
        wishWrong();
        why();
        whyWithoutSpan();
        fullness();
        Check.end();
    }

    private static void axis() {
        WheelDesk desk = new WheelDesk();
        desk.addWheel(2, 0, 0, 1000, 1000);
        desk.addWheel(0, 1, 0, 1000, 1000);
        desk.addWheel(0, 0, 1, 1000, 1000);
        desk.setAxis(0, 0, 70);
        desk.setAxis(0, 1, 100);
        desk.setAxis(0, 2, -6);
        desk.setAxis(0, 3, 8);
        desk.strike(0, 50);
        desk.tick(1);
        // the wish 60 * (10 - 0) = 600, of which the wheel takes -300; 50 + 600 + 8 = 658
        long[] due = {9, 658, 9, 58, 58, 70, 100, -6, 8, 600};
        for (int what = 0; what < 10; what++) {
            int asked = what;
            Check.due("axis(0, " + what + ")", desk.axis(0, what), due[what]);
            Check.tells("axis(2, " + what + ")", Desks::busy, d -> d.axis(2, asked), Desks.busy().axis(2, what));
        }
        desk.fail(0, true);
        Check.due("a failed wheel's momentum counts", desk.axis(0, 3), 58);
        desk.setAxis(1, 1, -300);
        desk.tick(1);
        Check.due("the wish is told, also if they do not span", desk.axis(1, 9), -1800);
        Check.due("the wish at another axis", desk.axis(2, 9), 0);
        desk.setAxis(0, 0, 1000);
        Check.due("the rate is what it is now", desk.axis(0, 2), 0);
        Check.refuses("axis(0, 10)", Desks::busy, d -> d.axis(0, 10), Check.ERROR);
        Check.refuses("axis(0, -1)", Desks::busy, d -> d.axis(0, -1), Check.ERROR);
        Check.refuses("axis(3, 0)", Desks::busy, d -> d.axis(3, 0), Check.ERROR);
        Check.refuses("axis(-1, 0)", Desks::busy, d -> d.axis(-1, 0), Check.ERROR);
    }

    private static void span() {
        WheelDesk desk = new WheelDesk();
        desk.addWheel(9, 0, 0, 1, 1);
        desk.addWheel(0, 9, 0, 1, 1);
        Check.due("two wheels", desk.span(), 0);
        desk.addWheel(9, 9, 0, 1, 1);
        Check.due("three in a plane", desk.span(), 0);
        desk.addWheel(0, 0, -9, 1, 1);
        // the square of each three's determinant, summed: three times 729 * 729
        Check.due("four wheels", desk.span(), 3L * 729 * 729);
        desk.fail(2, true);
        Check.due("a failed one is left out", desk.span(), 729L * 729);
        desk.fail(3, true);
        Check.due("the others do not span", desk.span(), 0);
        Check.tells("span()", Desks::full, d -> d.span(), Desks.full().span());
        desk = new WheelDesk();
        for (int i = 0; i < 2; i++) {
            desk.addWheel(9, 9, -9, 1, 1);
            desk.addWheel(9, -9, 9, 1, 1);
            desk.addWheel(-9, 9, 9, 1, 1);
        }
        // twice the matrix of three wheels whose determinant is -4 * 729
        Check.due("six long wheels", desk.span(), 8L * 16 * 729 * 729);
    }

    private static void wish() {
        WheelDesk desk = new WheelDesk();
        desk.addWheel(2, 0, 0, 1, 1);
        desk.addWheel(0, 1, 0, 1, 1);
        desk.addWheel(0, 0, 1, 1, 1);
        int[] torque = {-3, -2, -1, 0, 1, 2, 3, 4, 5};
        int[] due = {2, 1, 1, 0, 0, -1, -1, -2, -2};
        for (int i = 0; i < torque.length; i++) {
            Check.due("the nearest of -" + torque[i] + " / 2", desk.wish(0, torque[i], 0, 0), due[i]);
        }
        Check.due("beyond its limits", desk.wish(1, 7, 100000, 9), -100000);
        Check.due("beyond minus its limits", desk.wish(2, 7, 9, -100000), 100000);
        desk = new WheelDesk();
        desk.addWheel(1, 1, 0, 1, 1);
        desk.addWheel(0, 1, 1, 1, 1);
        desk.addWheel(0, 0, 1, 1, 1);
        // the torques of three wheels are the one answer of (w0, w0 + w1, w1 + w2) = -t
        Check.due("wheel 0", desk.wish(0, 10, 30, 70), -10);
        Check.due("wheel 1", desk.wish(1, 10, 30, 70), -20);
        Check.due("wheel 2", desk.wish(2, 10, 30, 70), -50);
        desk.addWheel(0, 0, 1, 1, 1);
        Check.due("two wheels share", desk.wish(2, 10, 30, 70), -25);
        desk.fail(3, true);
        Check.due("a failed one has no share", desk.wish(2, 10, 30, 70), -50);
        Check.tells("wish", Desks::threeWheels, d -> d.wish(0, 5, 6, 7), -5);
    }

    private static void wishWrong() {
        Check.due("busy ones span", Desks.busy().wish(0, 0, 0, 0), 0);
        Check.refuses("no such wheel", Desks::busy, d -> d.wish(4, 1, 1, 1), Check.ERROR);
        Check.refuses("a wheel below", Desks::busy, d -> d.wish(-1, 1, 1, 1), Check.ERROR);
        Check.refuses("a seventh wheel", Desks::full, d -> d.wish(6, 1, 1, 1), Check.ERROR);
        Check.refuses("it has failed", Desks::busy, d -> d.wish(3, 1, 1, 1), Check.ERROR);
        Check.refuses("t0 above", Desks::busy, d -> d.wish(0, 100001, 1, 1), Check.ERROR);
        Check.refuses("t0 below", Desks::busy, d -> d.wish(0, -100001, 1, 1), Check.ERROR);
        Check.refuses("t1 above", Desks::busy, d -> d.wish(0, 1, 100001, 1), Check.ERROR);
        Check.refuses("t1 below", Desks::busy, d -> d.wish(0, 1, -100001, 1), Check.ERROR);
        Check.refuses("t2 above", Desks::busy, d -> d.wish(0, 1, 1, 100001), Check.ERROR);
        Check.refuses("t2 below", Desks::busy, d -> d.wish(0, 1, 1, -100001), Check.ERROR);
        WheelDesk desk = Desks.threeWheels();
        desk.fail(2, true);
        Check.due("they do not span", desk.wish(0, 1, 1, 1), Check.ERROR);
    }

    private static void why() {
        WheelDesk desk = Desks.threeWheels();
        Check.due("no tick: why(0)", desk.why(0), 0);
        desk.tick(1);
        Check.due("met: why(0)", desk.why(0), 0);
        Check.due("met: why(1)", desk.why(1), WheelDesk.NONE);
        desk.setMost(1, true, 7);
        desk.setMost(2, true, 9);
        desk.setAxis(1, 1, 500);
        desk.setAxis(2, 1, 500);
        desk.tick(1);
        int[] due = {2, 21, 4, WheelDesk.NONE};
        for (int depth = 0; depth < 4; depth++) {
            Check.due("the first wheel is told " + depth, desk.why(depth), due[depth]);
        }
        desk.setMost(1, false, 7);
        desk.tick(1);
        Check.due("its momentum", desk.why(2), 3);
        desk.setMost(1, true, 100000);
        desk.setMost(1, false, 1000000);
        desk.tick(1);
        Check.due("the second wheel", desk.why(1), 22);
        desk.setMost(2, true, 100000);
        desk.tick(1);
        Check.due("met again: why(0)", desk.why(0), 0);
        Check.due("met again: why(1)", desk.why(1), WheelDesk.NONE);
        Check.tells("why(0)", Desks::busy, d -> d.why(0), 2);
        Check.refuses("why(-1)", Desks::busy, d -> d.why(-1), WheelDesk.BAD);
        Check.refuses("why(least)", Desks::busy, d -> d.why(Integer.MIN_VALUE), WheelDesk.BAD);
        Check.refuses("why(greatest)", Desks::busy, d -> d.why(Integer.MAX_VALUE), WheelDesk.NONE);
        Check.refuses("why(3)", Desks::busy, d -> d.why(3), WheelDesk.NONE);
    }

    private static void whyWithoutSpan() {
        WheelDesk desk = Desks.threeWheels();
        desk.fail(2, true);
        desk.tick(1);
        Check.due("no span: why(0)", desk.why(0), 1);
        Check.due("no span: why(1)", desk.why(1), 12);
        Check.due("no span: why(2)", desk.why(2), WheelDesk.NONE);
        desk.fail(1, true);
        Check.due("of that tick", desk.why(1), 12);
        desk.tick(1);
        Check.due("the smallest number", desk.why(1), 11);
        WheelDesk flat = new WheelDesk();
        flat.addWheel(1, 2, 3, 10, 10);
        flat.tick(1);
        Check.due("none failed: why(0)", flat.why(0), 1);
        Check.due("none failed: why(1)", flat.why(1), WheelDesk.NONE);
        for (int i = 0; i < 5; i++) {
            flat.addWheel(1, 2, i, 10, 10);
            flat.setAxis(0, 1, 1000);
        }
        flat.fail(5, true);
        flat.tick(1);
        Check.due("six wheels, in a plane: why(0)", flat.why(0), 1);
        Check.due("six wheels, the last one failed", flat.why(1), 15);
        flat.fail(5, false);
        flat.tick(1);
        Check.due("six wheels, none failed: why(0)", flat.why(0), 1);
        Check.due("six wheels, none failed: why(1)", flat.why(1), WheelDesk.NONE);
        WheelDesk full = Desks.full();
        for (int k = 5; k >= 3; k--) {
            full.fail(k, true);
        }
        full.tick(1);
        Check.due("they span, though three failed", full.why(0), 0);
        full.fail(3, false);
        full.fail(4, false);
        full.fail(1, true);
        full.fail(2, true);
        full.fail(0, true);
        full.tick(1);
        Check.due("the first of four", full.why(1), 10);
    }

    private static void fullness() {
        Check.dueFloat("without wheels", new WheelDesk().fullness(), 0f);
        Check.dueFloat("six empty wheels", Desks.full().fullness(), 0f);
        WheelDesk desk = new WheelDesk();
        desk.addWheel(1, 0, 0, 300, 100000);
        desk.addWheel(0, 1, 0, 700, 100000);
        desk.addWheel(0, 0, 1, 1000000, 100000);
        Check.dueFloat("empty wheels", desk.fullness(), 0f);
        for (int axis = 0; axis < 3; axis++) {
            desk.setAxis(axis, 0, 1);
        }
        desk.set(0, 0);
        desk.set(1, 1);
        desk.set(3, 100000);
        desk.strike(0, -100);
        desk.strike(1, 200);
        desk.strike(2, 99999);
        desk.tick(1);
        Check.due("below 0", desk.wheel(0, 3), -100);
        Check.dueFloat("the greatest one", desk.fullness(), 100f / 300f);
        desk.fail(0, true);
        Check.dueFloat("a failed one, too", desk.fullness(), 100f / 300f);
        desk.setMost(0, false, 1000);
        Check.dueFloat("the next one", desk.fullness(), 200f / 700f);
        desk.setMost(1, false, 1000000);
        Check.dueFloat("the first one again", desk.fullness(), 0.1f);
        desk.setMost(0, false, 3);
        Check.dueFloat("beyond", desk.fullness(), 100f / 3f);
        Check.dueFloat("busy", Desks.busy().fullness(), 0.875f);
        Check.tells("fullness()", Desks::busy, d -> (long) (d.fullness() * 1000), 875);
    }
}
