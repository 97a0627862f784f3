/** Promises 7 to 10: numbers of an axis, settings, and a strike. */
public final class SettingsTest {
    private static final int[] LEAST = {1, -1000000, -100, -1000};
    private static final int[] GREATEST = {1000, 1000000, 100, 1000};
    private static final int[] LEAST_SETTING = {0, 0, 1, 1, 0};
    private static final int[] GREATEST_SETTING = {1000, 1000, 10000, 100000, 10000};
    private static final int[] FIRST_SETTING = {10, 60, 500, 2000, 0};

    public static void main(String[] args) {
        setAxis();
        setAxisWrong();
        settings();
        settingsWrong();
        strike();
        Check.end();
    }

    private static void setAxis() {
        for (int axis = 0; axis < 3; axis++) {
            for (int what = 0; what < 4; what++) {
                String name = "setAxis(" + axis + ", " + what + ", ..)";
                WheelDesk desk = new WheelDesk();
                Check.due(name, desk.setAxis(axis, what, LEAST[what]), what == 0 ? 100 : 0);
                Check.due(name + " least", desk.axis(axis, 5 + what), LEAST[what]);
                Check.due(name, desk.setAxis(axis, what, GREATEST[what]), LEAST[what]);
                Check.due(name + " greatest", desk.axis(axis, 5 + what), GREATEST[what]);
                Check.due(name, desk.setAxis(axis, what, 5), GREATEST[what]);
                int others = 0;
                for (int other = 0; other < 3; other++) {
                    others += other == axis ? 0 : desk.axis(other, 5 + what);
                }
                Check.due(name + " leaves the other axes", others, what == 0 ? 200 : 0);
                int at = axis;
                int set = what;
                Check.acts(name, Desks::busy, d -> d.setAxis(at, set, 9), Desks.busy().axis(axis, 5 + what));
            }
        }
    }

    private static void setAxisWrong() {
        for (int what = 0; what < 4; what++) {
            int set = what;
            String name = "setAxis(0, " + what + ", ..)";
            Check.refuses(name + " below", Desks::busy, d -> d.setAxis(0, set, LEAST[set] - 1), WheelDesk.BAD);
            Check.refuses(name + " above", Desks::busy, d -> d.setAxis(0, set, GREATEST[set] + 1), WheelDesk.BAD);
            Check.refuses(name + " axis 3", Desks::busy, d -> d.setAxis(3, set, 1), WheelDesk.BAD);
            Check.refuses(name + " axis -1", Desks::busy, d -> d.setAxis(-1, set, 1), WheelDesk.BAD);
        }
        Check.refuses("what 4", Desks::busy, d -> d.setAxis(0, 4, 1), WheelDesk.BAD);
        Check.refuses("what -1", Desks::busy, d -> d.setAxis(0, -1, 1), WheelDesk.BAD);
        Check.refuses("all wrong", Desks::busy, d -> d.setAxis(Integer.MAX_VALUE, Integer.MIN_VALUE,
                Integer.MAX_VALUE), WheelDesk.BAD);
    }

    private static void settings() {
        for (int what = 0; what < 5; what++) {
            String name = "set(" + what + ", ..)";
            int set = what;
            WheelDesk desk = new WheelDesk();
            Check.due(name, desk.set(what, LEAST_SETTING[what]), FIRST_SETTING[what]);
            Check.due(name + " least", desk.setting(what), LEAST_SETTING[what]);
            Check.due(name, desk.set(what, GREATEST_SETTING[what]), LEAST_SETTING[what]);
            Check.due(name + " greatest", desk.setting(what), GREATEST_SETTING[what]);
            Check.due(name, desk.set(what, 77), GREATEST_SETTING[what]);
            for (int other = 0; other < 5; other++) {
                Check.due(name + " then " + other, desk.setting(other), other == what ? 77 : FIRST_SETTING[other]);
            }
            Check.acts(name, Desks::busy, d -> d.set(set, 3), Desks.busy().setting(what));
            Check.tells("setting", Desks::busy, d -> d.setting(set), what == 4 ? 4000 : FIRST_SETTING[what]);
        }
    }

    private static void settingsWrong() {
        for (int what = 0; what < 5; what++) {
            String name = "set(" + what + ", ..)";
            int set = what;
            Check.refuses(name + " below", Desks::busy, d -> d.set(set, LEAST_SETTING[set] - 1), WheelDesk.BAD);
            Check.refuses(name + " above", Desks::busy, d -> d.set(set, GREATEST_SETTING[set] + 1), WheelDesk.BAD);
        }
        Check.refuses("set(5, 1)", Desks::busy, d -> d.set(5, 1), WheelDesk.BAD);
        Check.refuses("set(-1, 1)", Desks::busy, d -> d.set(-1, 1), WheelDesk.BAD);
        Check.refuses("setting(5)", Desks::busy, d -> d.setting(5), WheelDesk.BAD);
        Check.refuses("setting(-1)", Desks::busy, d -> d.setting(-1), WheelDesk.BAD);
    }

    private static void strike() {
        WheelDesk desk = new WheelDesk();
        Check.due("strike up", desk.strike(1, 100000), 1000);
        Check.due("momentum", desk.axis(1, 1), 100000);
        Check.due("whole momentum", desk.axis(1, 3), 100000);
        Check.due("from outside", desk.axis(1, 4), 100000);
        Check.due("rounded down", desk.strike(1, -100000 + 99), 0);
        Check.due("rounded down below 0", desk.strike(1, -100), -1);
        Check.due("momentum", desk.axis(1, 1), -1);
        Check.due("strike down", desk.strike(1, -100000), -1001);
        Check.due("nothing", desk.strike(1, 0), -1001);
        Check.due("from outside", desk.axis(1, 4), -100001);
        Check.due("the angle stays", desk.axis(1, 0), 0);
        Check.due("the axis beside stays", desk.axis(0, 1) + desk.axis(2, 1), 0);
        desk.setAxis(2, 0, 7);
        Check.due("by the inertia", desk.strike(2, 20), 2);
        Check.acts("strike", Desks::busy, d -> d.strike(0, 0), Desks.busy().axis(0, 2));
        Check.refuses("by above", Desks::busy, d -> d.strike(0, 100001), Check.ERROR);
        Check.refuses("by below", Desks::busy, d -> d.strike(0, -100001), Check.ERROR);
        Check.refuses("axis 3", Desks::busy, d -> d.strike(3, 1), Check.ERROR);
        Check.refuses("axis -1", Desks::busy, d -> d.strike(-1, 1), Check.ERROR);
    }
}
