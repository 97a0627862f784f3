/** Promises 21 and 22: undo and the fingerprint. */
public final class HistoryTest {
    public static void main(String[] args) {
        undo();
        onlyFour();
        everythingComesBack();
        fingerprint();
        Check.end();
    }

    private static void undo() {
        WheelDesk desk = new WheelDesk();
        Check.due("nothing to undo", desk.undo(), WheelDesk.NONE);
        long first = desk.fingerprint();
        desk.addWheel(1, 2, 3, 4, 5);
        long second = desk.fingerprint();
        desk.tick(3);
        Check.due("one is left", desk.undo(), 1);
        Check.due("the second state", desk.fingerprint(), second);
        Check.due("none is left", desk.undo(), 0);
        Check.due("the first state", desk.fingerprint(), first);
        Check.due("nothing to undo", desk.undo(), WheelDesk.NONE);
        Check.due("still the first state", desk.fingerprint(), first);
        desk.set(0, desk.setting(0));
        desk.setAxis(0, 0, 100);
        Check.due("an act that leaves all as it was counts", desk.undo(), 1);
        Check.due("an undo is no act", desk.undo(), 0);
    }

    private static void onlyFour() {
        WheelDesk desk = new WheelDesk();
        for (int i = 1; i <= 9; i++) {
            desk.set(0, i);
        }
        for (int i = 3; i >= 0; i--) {
            Check.due("left", desk.undo(), i);
            Check.due("the setting", desk.setting(0), 5 + i);
        }
        Check.due("the oldest ones are dropped", desk.undo(), WheelDesk.NONE);
        Check.due("the setting stays", desk.setting(0), 5);
        desk.set(0, 50);
        desk.set(0, 51);
        Check.due("acts after undo", desk.undo(), 1);
        Check.due("the setting", desk.setting(0), 50);
        desk.set(0, 52);
        desk.set(0, 53);
        desk.set(0, 54);
        desk.set(0, 55);
        Check.due("full again", desk.undo(), 3);
        Check.due("the setting", desk.setting(0), 54);
    }

    private static void everythingComesBack() {
        Check.acts("a long tick", Desks::busy, d -> d.tick(200), Desks.busy().tick(200));
        WheelDesk desk = Desks.busy();
        WheelDesk other = Desks.busy();
        desk.setMost(0, false, 1);
        desk.setMost(1, true, 1);
        desk.fail(3, false);
        desk.tick(1);
        for (int i = 0; i < 4; i++) {
            desk.undo();
        }
        Check.due("four acts undone", desk.fingerprint(), other.fingerprint());
        WheelDesk reasons = Desks.threeWheels();
        reasons.fail(2, true);
        reasons.tick(1);
        reasons.fail(2, false);
        reasons.tick(1);
        Check.due("met: why(1)", reasons.why(1), WheelDesk.NONE);
        reasons.undo();
        Check.due("the reasons come back: why(0)", reasons.why(0), 1);
        Check.due("the reasons come back: why(1)", reasons.why(1), 12);
        desk.tick(30);
        other.tick(30);
        Check.due("it goes on as if nothing had been", desk.fingerprint(), other.fingerprint());
    }

    private static void fingerprint() {
        Check.due("of a new one", new WheelDesk().fingerprint(), summed(new WheelDesk()));
        Check.due("of a full one", Desks.full().fingerprint(), summed(Desks.full()));
        Check.due("of a busy one", Desks.busy().fingerprint(), summed(Desks.busy()));
        WheelDesk flat = Desks.threeWheels();
        flat.fail(1, true);
        flat.tick(1);
        Check.due("with two reasons", flat.fingerprint(), summed(flat));
        Check.tells("fingerprint()", Desks::busy, d -> d.fingerprint(), summed(Desks.busy()));
        Check.due("an error leaves it", differs(d -> d.set(9, 9)), 0);
        Check.due("a setting counts", differs(d -> d.set(3, 9)), 1);
        Check.due("a target counts", differs(d -> d.setAxis(2, 1, 9)), 1);
        Check.due("a wheel counts", differs(d -> d.addWheel(1, 1, 1, 1, 1)), 1);
        Check.due("a failure counts", differs(d -> d.fail(1, true)), 1);
        Check.due("a tick counts", differs(d -> d.tick(1)), 1);
    }

    private static int differs(java.util.function.Consumer<WheelDesk> call) {
        WheelDesk desk = Desks.busy();
        call.accept(desk);
        return desk.fingerprint() == Desks.busy().fingerprint() ? 0 : 1;
    }

    private static long summed(WheelDesk desk) {
        long print = 31L * 173 + desk.time();
        for (int what = 0; what < 5; what++) {
            print = 31 * print + desk.setting(what);
        }
        for (int axis = 0; axis < 3; axis++) {
            for (int what = 0; what < 10; what++) {
                print = 31 * print + desk.axis(axis, what);
            }
        }
        print = 31 * print + desk.wheels();
        for (int wheel = 0; wheel < desk.wheels(); wheel++) {
            for (int what = 0; what < 8; what++) {
                print = 31 * print + desk.wheel(wheel, what);
            }
        }
        print = 31 * print + desk.span();
        for (int depth = 0; desk.why(depth) != WheelDesk.NONE; depth++) {
            print = 31 * print + desk.why(depth);
        }
        return print;
    }
}
