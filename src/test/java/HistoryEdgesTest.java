import java.util.function.Consumer;
import java.util.function.ToLongFunction;

/** "HISTORY", undo() and fingerprint(): a test for each sentence that names an edge. */
public final class HistoryEdgesTest {
    private static final int NONE = WheelDesk.NONE;

    public static void main(String[] args) {
        emptyHistory();
        howManyAreLeft();
        theOldestIsDropped();
        eachActCounts();
        actsThatLeaveAllAsItWas();
        noActs();
        everyNumberComesBack();
        whatIsTriedOnStaleRows();
        manyCalls();
        fingerprintOfANewOne();
        fingerprintInItsOrder();
        fingerprintOfEveryChain();
        Check.end();
    }

    private static void emptyHistory() {
        WheelDesk desk = new WheelDesk();
        for (int i = 0; i < 3; i++) {
            Check.due("nothing to undo", desk.undo(), NONE);
        }
        desk.set(0, 11);
        Check.due("one act", desk.undo(), 0);
        Check.due("undone", desk.setting(0), 10);
        Check.due("nothing to undo", desk.undo(), NONE);
        Check.due("nothing is undone", desk.setting(0), 10);
    }

    /** "Returns how many states the history still has." */
    private static void howManyAreLeft() {
        for (int acts = 0; acts <= 7; acts++) {
            WheelDesk desk = new WheelDesk();
            for (int i = 1; i <= acts; i++) {
                desk.set(2, i);
            }
            int kept = Math.min(acts, 4);
            for (int left = kept - 1; left >= 0; left--) {
                int setting = acts - kept + left;
                Check.due(acts + " acts, undo()", desk.undo(), left);
                Check.due(acts + " acts, then", desk.setting(2), setting == 0 ? 500 : setting);
            }
            Check.due(acts + " acts, all undone", desk.undo(), NONE);
        }
    }

    /** "If there are 4 already, the oldest one is dropped." */
    private static void theOldestIsDropped() {
        WheelDesk desk = new WheelDesk();
        desk.set(0, 1);
        desk.strike(0, 100);
        desk.addWheel(1, 1, 1, 10, 10);
        desk.tick(5);
        desk.fail(0, true);
        Check.due("the failure", desk.undo(), 3);
        Check.due("it works", desk.wheel(0, 6), 0);
        Check.due("the ticks", desk.undo(), 2);
        Check.due("the time", desk.time(), 0);
        Check.due("the wheel", desk.undo(), 1);
        Check.due("no wheel", desk.wheels(), 0);
        Check.due("the strike", desk.undo(), 0);
        Check.due("at rest", desk.axis(0, 1), 0);
        Check.due("the first act can't be undone", desk.undo(), NONE);
        Check.due("it stays", desk.setting(0), 1);
        for (int i = 0; i < 3; i++) {
            desk.set(0, 20 + i);
        }
        desk.undo();
        desk.undo();
        for (int i = 0; i < 4; i++) {
            desk.set(0, 30 + i);
        }
        int[] due = {32, 31, 30, 20};
        for (int i = 0; i < 4; i++) {
            Check.due("full again", desk.undo(), 3 - i);
            Check.due("full again, then", desk.setting(0), due[i]);
        }
        Check.due("the one before was dropped", desk.undo(), NONE);
    }

    private static void eachActCounts() {
        act("addWheel", d -> d.addWheel(1, 2, 3, 4, 5), 4);
        act("fail", d -> d.fail(1, true), 0);
        act("fail, to work again", d -> d.fail(3, false), 1);
        act("setMost, momentum", d -> d.setMost(0, false, 3), 400);
        act("setMost, torque", d -> d.setMost(0, true, 3), 50);
        act("setAxis, inertia", d -> d.setAxis(1, 0, 3), 100);
        act("setAxis, target", d -> d.setAxis(0, 1, 3), 9000);
        act("setAxis, field", d -> d.setAxis(1, 2, 3), 70);
        act("setAxis, disturbance", d -> d.setAxis(2, 3, 3), -12);
        for (int what = 0; what < 5; what++) {
            int set = what;
            act("set", d -> d.set(set, 3), Desks.busy().setting(what));
        }
        act("strike", d -> d.strike(0, 3), Desks.busy().strike(0, 3));
        act("tick", d -> d.tick(3), Desks.busy().tick(3));
    }

    private static void act(String name, ToLongFunction<WheelDesk> call, long answer) {
        Check.acts(name + " with a full history", Desks::busy, call, answer);
        WheelDesk desk = Desks.busy();
        for (int i = 0; i < 4; i++) {
            desk.set(3, 2000);
        }
        for (int i = 0; i < 4; i++) {
            desk.undo();
        }
        Check.due(name + " with an empty history", call.applyAsLong(desk), answer);
        Check.due(name + " with an empty history, undo()", desk.undo(), 0);
        Check.due(name + " with an empty history, undo() again", desk.undo(), NONE);
        Check.due(name + ": as it was", desk.fingerprint(), Desks.busy().fingerprint());
    }

    /** "Also if it leaves all as it was." */
    private static void actsThatLeaveAllAsItWas() {
        act("fail a failed one", d -> d.fail(3, true), 1);
        act("let work one that works", d -> d.fail(0, false), 0);
        act("the same momentum", d -> d.setMost(1, false, 5000), 5000);
        act("the same torque", d -> d.setMost(1, true, 2000), 2000);
        act("the same inertia", d -> d.setAxis(0, 0, 100), 100);
        act("the same target", d -> d.setAxis(0, 1, 9000), 9000);
        act("the same field", d -> d.setAxis(1, 2, 70), 70);
        act("the same disturbance", d -> d.setAxis(2, 3, -12), -12);
        act("the same setting", d -> d.set(0, 10), 10);
        act("a strike by 0", d -> d.strike(2, 0), Desks.busy().axis(2, 2));
    }

    /** What only tells adds nothing; nor does undo() itself, or a call that returns an error. */
    private static void noActs() {
        WheelDesk desk = new WheelDesk();
        tellAll(desk);
        Check.due("nothing to undo", desk.undo(), NONE);
        desk.addWheel(1, 2, 3, 4, 5);
        tellAll(desk);
        Check.due("one act", desk.undo(), 0);
        for (int i = 1; i <= 4; i++) {
            desk.set(0, i);
            tellAll(desk);
        }
        for (int i = 3; i >= 0; i--) {
            Check.due("four acts", desk.undo(), i);
            tellAll(desk);
            Check.due("four acts, then", desk.setting(0), i == 0 ? 10 : i);
        }
        Check.due("nothing to undo", desk.undo(), NONE);
    }

    private static void tellAll(WheelDesk desk) {
        desk.wheel(0, 3);
        desk.wheels();
        desk.setting(0);
        desk.time();
        desk.axis(0, 0);
        desk.span();
        desk.wish(0, 1, 1, 1);
        desk.why(0);
        desk.fullness();
        desk.arrives(0);
        desk.spare();
        desk.gravest(3);
        desk.fingerprint();
        desk.set(0, -1);
        desk.tick(0);
        desk.strike(3, 1);
    }

    /** "Everything": each number that is told comes back, from whatever it became. */
    private static void everyNumberComesBack() {
        WheelDesk desk = Desks.busy();
        for (int axis = 0; axis < 3; axis++) {
            for (int what = 0; what < 4; what++) {
                int at = axis;
                int set = what;
                comesBack("setAxis", d -> d.setAxis(at, set, 77));
            }
            int at = axis;
            comesBack("strike", d -> d.strike(at, 54321));
        }
        for (int what = 0; what < 5; what++) {
            int set = what;
            comesBack("set", d -> d.set(set, 77));
        }
        for (int k = 0; k < desk.wheels(); k++) {
            int wheel = k;
            comesBack("fail", d -> d.fail(wheel, wheel != 3));
            comesBack("setMost", d -> d.setMost(wheel, true, 77));
            comesBack("setMost", d -> d.setMost(wheel, false, 77));
        }
        comesBack("addWheel", d -> d.addWheel(9, -9, 9, 77, 77));
        comesBack("tick", d -> d.tick(1));
        comesBack("tick", d -> d.tick(200));
    }

    private static void comesBack(String name, Consumer<WheelDesk> call) {
        WheelDesk desk = Desks.busy();
        WheelDesk plain = Desks.busy();
        call.accept(desk);
        desk.undo();
        for (int axis = 0; axis < 3; axis++) {
            for (int what = 0; what < 10; what++) {
                Check.due(name + ": axis(" + axis + ", " + what + ")", desk.axis(axis, what), plain.axis(axis, what));
            }
        }
        for (int what = 0; what < 5; what++) {
            Check.due(name + ": setting(" + what + ")", desk.setting(what), plain.setting(what));
        }
        Check.due(name + ": wheels()", desk.wheels(), plain.wheels());
        for (int k = 0; k < 5; k++) {
            for (int what = 0; what < 8; what++) {
                Check.due(name + ": wheel(" + k + ", " + what + ")", desk.wheel(k, what), plain.wheel(k, what));
            }
        }
        for (int depth = 0; depth < 4; depth++) {
            Check.due(name + ": why(" + depth + ")", desk.why(depth), plain.why(depth));
        }
        Check.due(name + ": time()", desk.time(), plain.time());
        Check.due(name + ": span()", desk.span(), plain.span());
        // what comes then is what comes without it
        desk.tick(20);
        plain.tick(20);
        Check.due(name + ": 20 ticks on", desk.fingerprint(), plain.fingerprint());
    }

    /** A wheel, a reason, a state that was undone leaves nothing behind. */
    private static void whatIsTriedOnStaleRows() {
        WheelDesk desk = Desks.threeWheels();
        desk.addWheel(9, 9, 9, 7, 7);
        desk.setAxis(0, 1, 5000);
        desk.tick(3);
        desk.fail(3, true);
        for (int i = 0; i < 4; i++) {
            desk.undo();
        }
        Check.due("three wheels", desk.wheels(), 3);
        Check.due("the fourth is gone", desk.wheel(3, 0), WheelDesk.BAD);
        Check.due("they can't be missed", desk.spare(), 0);
        Check.due("it does not count", desk.span(), 1);
        Check.due("it comes again", desk.addWheel(1, 2, 3, 70, 60), 3);
        int[] due = {1, 2, 3, 0, 70, 60, 0, 0};
        for (int what = 0; what < 8; what++) {
            Check.due("as a new one " + what, desk.wheel(3, what), due[what]);
        }
        Check.due("why(0) of no tick", desk.why(0), 0);
        Check.due("why(1) of no tick", desk.why(1), NONE);
    }

    /** "An object is used for at most 512 calls": the last ones are as good as the first ones. */
    private static void manyCalls() {
        WheelDesk desk = new WheelDesk();
        for (int i = 1; i <= 506; i++) {
            desk.set(2, i);
        }
        Check.due("the 507th call", desk.set(2, 507), 506);
        for (int i = 3; i >= 0; i--) {
            Check.due("undo()", desk.undo(), i);
        }
        Check.due("the 512th call", desk.setting(2), 503);
        WheelDesk struck = new WheelDesk();
        for (int i = 1; i <= 511; i++) {
            struck.strike(0, -100000);
        }
        Check.due("the 512th call", struck.strike(0, -100000), -512000);
    }

    /** "It starts as 173." */
    private static void fingerprintOfANewOne() {
        long print = 173;
        long[] numbers = {0, 10, 60, 500, 2000, 0, 0, 0, 0, 0, 0, 100, 0, 0, 0, 0, 0, 0, 0, 0, 0, 100, 0, 0, 0, 0,
            0, 0, 0, 0, 0, 100, 0, 0, 0, 0, 0, 0, 0};
        for (long number : numbers) {
            print = 31 * print + number;
        }
        Check.due("of a new one", new WheelDesk().fingerprint(), print);
    }

    /** Few numbers are alike here, so that an order that is not the document's shows. */
    private static void fingerprintInItsOrder() {
        WheelDesk desk = new WheelDesk();
        desk.addWheel(2, 0, 0, 1000, 1000);
        desk.addWheel(0, 1, 0, 1100, 1200);
        desk.addWheel(0, 0, 1, 1300, 250);
        for (int what = 0; what < 5; what++) {
            desk.set(what, new int[] {100, 1, 901, 902, 8}[what]);
        }
        for (int axis = 0; axis < 3; axis++) {
            desk.setAxis(axis, 0, 10 + axis);
            desk.setAxis(axis, 1, 200 + 50 * axis);
            desk.setAxis(axis, 2, 3 + axis);
            desk.setAxis(axis, 3, 20 + axis);
        }
        Check.due("two are met, the third one's torque is cut", desk.tick(1), 0);
        // h = (-200, -250, -250), B = (3, 4, 5): h x B = (-250, 250, -50), m = (-1, 0, -1)
        // m x B = (4, 2, -4), so the torques of the magnets are (0, 0, -1)
        long[] numbers = {
            1, 100, 1, 901, 902, 8,
            22, 220, 22, 20, 20, 10, 200, 3, 20, 200,
            24, 271, 24, 21, 21, 11, 250, 4, 21, 250,
            22, 271, 22, 21, 21, 12, 300, 5, 22, 300,
            3,
            2, 0, 0, -100, 1000, 1000, 0, -100,
            0, 1, 0, -250, 1100, 1200, 0, -250,
            0, 0, 1, -250, 1300, 250, 0, -250,
            4, 2, 22, 4};
        long print = 173;
        for (long number : numbers) {
            print = 31 * print + number;
        }
        Check.due("all numbers in their order", desk.fingerprint(), print);
    }

    /** "why() from depth 0 on, as long as it is not NONE": chains of one, two and three reasons. */
    private static void fingerprintOfEveryChain() {
        chain("met", Desks.aged(1), 0);
        WheelDesk flat = Desks.flat();
        flat.tick(1);
        chain("no span", flat, 1);
        flat.fail(4, true);
        flat.tick(1);
        chain("no span, one failed", flat, 1, 14);
        WheelDesk cut = Desks.direct(1000, 5);
        cut.strike(2, 6);
        cut.tick(1);
        chain("cut", cut, 2, 22, 4);
    }

    /** The chain is the end of the fingerprint: a desk with the same numbers before it differs by it alone. */
    private static void chain(String name, WheelDesk desk, int... reasons) {
        long print = 173;
        print = 31 * print + desk.time();
        for (int what = 0; what < 5; what++) {
            print = 31 * print + desk.setting(what);
        }
        for (int i = 0; i < 30; i++) {
            print = 31 * print + desk.axis(i / 10, i % 10);
        }
        print = 31 * print + desk.wheels();
        for (int i = 0; i < 8 * desk.wheels(); i++) {
            print = 31 * print + desk.wheel(i / 8, i % 8);
        }
        print = 31 * print + desk.span();
        for (int reason : reasons) {
            print = 31 * print + reason;
        }
        Check.due("fingerprint(), " + name, desk.fingerprint(), print);
    }
}
