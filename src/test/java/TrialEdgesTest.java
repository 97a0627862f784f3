/** What would be, and the numbers that are told without an act: span(), fullness(), arrives(), spare(), gravest(). */
public final class TrialEdgesTest {
    private static final int NONE = WheelDesk.NONE;

    public static void main(String[] args) {
        span();
        fullness();
        arrivesWithinTheBound();
        arrivesWithinTheRate();
        arrivesInTime();
        arrivesByTheLaw();
        arrivesBeyondTheGreatestTime();
        spareOfNone();
        spareOfSix();
        spareWithFailedOnes();
        gravestOfNone();
        gravestOfSeveral();
        gravestFromTheFirstTick();
        gravestOverAllAxes();
        gravestAsMade();
        gravestBeyondTheGreatestTime();
        triedNotMade();
        Check.end();
    }

    /** "Returns D; 0 if they do not span." */
    private static void span() {
        Check.due("no wheel", new WheelDesk().span(), 0);
        Check.due("all failed", Desks.allFailed().span(), 0);
        Check.due("six in a plane", Desks.flat().span(), 0);
        WheelDesk desk = new WheelDesk();
        desk.addWheel(9, 9, 9, 1, 1);
        Check.due("one wheel", desk.span(), 0);
        desk.addWheel(-9, 9, 9, 1, 1);
        Check.due("two wheels", desk.span(), 0);
        desk.addWheel(9, -9, 9, 1, 1);
        // the square of the determinant of (9, 9, 9), (-9, 9, 9), (9, -9, 9), which is 4 * 729
        Check.due("three wheels", desk.span(), 16L * 729 * 729);
        for (int k = 0; k < 3; k++) {
            desk.fail(k, true);
            Check.due("without wheel " + k, desk.span(), 0);
            desk.fail(k, false);
        }
        Check.due("all work again", desk.span(), 16L * 729 * 729);
        Check.due("the least that there is", Desks.threeWheels().span(), 1);
        for (int k = 0; k < 6; k++) {
            WheelDesk pairs = Desks.pairs();
            Check.due("pairs", pairs.span(), 8);
            pairs.fail(k, true);
            Check.due("pairs without wheel " + k, pairs.span(), 4);
            pairs.fail((k + 3) % 6, true);
            Check.due("without a pair", pairs.span(), 0);
        }
    }

    /** "The greatest one of the quotients of all wheels (failed ones, too); 0 without wheels." */
    private static void fullness() {
        Check.dueFloat("without wheels", new WheelDesk().fullness(), 0f);
        for (int k = 0; k < 3; k++) {
            for (int sign = -1; sign <= 1; sign += 2) {
                WheelDesk desk = Desks.direct(30000, 100000);
                Check.dueFloat("empty", desk.fullness(), 0f);
                desk.strike(k, sign * 10000);
                desk.tick(1);
                Check.dueFloat("a third", desk.fullness(), 10000f / 30000f);
                desk.strike(k, sign * 20000);
                desk.tick(1);
                Check.dueFloat("full", desk.fullness(), 1f);
                desk.setMost(k, false, 29999);
                Check.dueFloat("beyond", desk.fullness(), 30000f / 29999f);
                desk.setMost(k, false, 1);
                Check.dueFloat("as far beyond as can be", desk.fullness(), 30000f);
                desk.fail(k, true);
                Check.dueFloat("a failed one, too", desk.fullness(), 30000f);
                desk.setMost(k, false, 1000000);
                Check.dueFloat("the greatest momentum", desk.fullness(), 30000f / 1000000f);
            }
        }
        WheelDesk six = Desks.pairs();
        six.strike(2, 100000);
        six.set(0, 0);
        six.tick(30);
        six.setMost(5, false, 100000);
        Check.dueFloat("of the last one of six", six.fullness(),
                (float) Math.abs(six.wheel(5, 3)) / 100000f);
        Check.due("which holds some", six.wheel(5, 3) != 0 ? 1 : 0, 1);
    }

    /** "At each axis the angle differs from the target by at most a number." */
    private static void arrivesWithinTheBound() {
        for (int axis = 0; axis < 3; axis++) {
            for (int target : new int[] {-1000000, -7, 7, 999999, 1000000}) {
                WheelDesk desk = new WheelDesk();
                desk.setAxis(axis, 1, target);
                int off = Math.abs(target);
                String name = "target " + target + " at " + axis;
                Check.due(name + ", just within", desk.arrives(off), 0);
                Check.due(name + ", one less", desk.arrives(off - 1), NONE);
                Check.due(name + ", the greatest bound", desk.arrives(1000000), 0);
                Check.due(name + ", the least bound", desk.arrives(0), NONE);
            }
        }
        Check.due("a new one is there", new WheelDesk().arrives(0), 0);
        WheelDesk far = Desks.aged(1);
        far.strike(0, 100000);
        far.set(1, 0);
        far.set(0, 0);
        far.tick(200);
        far.tick(200);
        far.tick(200);
        far.tick(200);
        far.tick(200);
        Check.due("an angle of 1000000", far.axis(0, 0), 1000000);
        far.strike(0, -100000);
        Check.due("the greatest bound", far.arrives(1000000), 0);
        far.setAxis(0, 1, -1);
        Check.due("one beyond the greatest bound", far.arrives(1000000), NONE);
    }

    /** "And the rate is from -1 to 1." */
    private static void arrivesWithinTheRate() {
        for (int axis = 0; axis < 3; axis++) {
            int[] momentum = {-300, -200, -101, -100, -1, 0, 100, 199, 200, 300};
            int[] due = {NONE, NONE, NONE, 0, 0, 0, 0, 0, NONE, NONE};
            for (int i = 0; i < momentum.length; i++) {
                WheelDesk desk = new WheelDesk();
                desk.strike(axis, momentum[i]);
                Check.due("momentum " + momentum[i] + " at " + axis, desk.arrives(1000000), due[i]);
                Check.due("momentum " + momentum[i] + " at " + axis, desk.arrives(0), due[i]);
            }
            WheelDesk slowing = new WheelDesk();
            slowing.strike(axis, 1000);
            slowing.setAxis(axis, 3, -100);
            // the rates 9, 8, .. 1
            Check.due("as soon as the rate is 1", slowing.arrives(1000000), 9);
            Check.due("the angle is 45 then", slowing.arrives(45), 9);
            // then the rates 0, -1 and the angles 45, 44
            Check.due("just behind it", slowing.arrives(44), 11);
            Check.due("not later: it is too fast then", slowing.arrives(43), NONE);
        }
    }

    private static WheelDesk drifting(int axis, int target) {
        WheelDesk desk = new WheelDesk();
        desk.strike(axis, target < 0 ? -100 : 100);
        desk.setAxis(axis, 1, target);
        return desk;
    }

    /** "The least number of ticks from 0 to 500; NONE if there is none." */
    private static void arrivesInTime() {
        for (int axis = 0; axis < 3; axis++) {
            for (int sign = -1; sign <= 1; sign += 2) {
                Check.due("none", drifting(axis, 0).arrives(0), 0);
                Check.due("one", drifting(axis, sign).arrives(0), 1);
                Check.due("499", drifting(axis, 499 * sign).arrives(0), 499);
                Check.due("500", drifting(axis, 500 * sign).arrives(0), 500);
                Check.due("501", drifting(axis, 501 * sign).arrives(0), NONE);
                Check.due("501, but within 1", drifting(axis, 501 * sign).arrives(1), 500);
                Check.due("502, but within 1", drifting(axis, 502 * sign).arrives(1), NONE);
                Check.due("the first one of several", drifting(axis, 100 * sign).arrives(20), 80);
            }
        }
    }

    private static WheelDesk underWay() {
        WheelDesk desk = Desks.pairs();
        desk.setAxis(0, 1, 3000);
        desk.setAxis(1, 1, -700);
        desk.strike(2, 5000);
        return desk;
    }

    private static void arrivesByTheLaw() {
        int made = 0;
        while (made < 200 && !isThere(underWayFor(made), 25)) {
            made++;
        }
        Check.due("that is some", made > 3 && made < 200 ? 1 : 0, 1);
        Check.due("as many as it takes", underWay().arrives(25), made);
        Check.due("one tick is left", underWayFor(made - 1).arrives(25), 1);
        Check.due("no tick is left", underWayFor(made).arrives(25), 0);
    }

    private static WheelDesk underWayFor(int ticks) {
        WheelDesk desk = underWay();
        if (ticks > 0) {
            desk.tick(ticks);
        }
        return desk;
    }

    private static boolean isThere(WheelDesk desk, int bound) {
        boolean there = true;
        for (int axis = 0; axis < 3; axis++) {
            there &= Math.abs(desk.axis(axis, 6) - desk.axis(axis, 0)) <= bound;
            there &= Math.abs(desk.axis(axis, 2)) <= 1;
        }
        return there;
    }

    /** "Also beyond the greatest time." */
    private static void arrivesBeyondTheGreatestTime() {
        for (int time : new int[] {49501, 49999, 50000}) {
            WheelDesk desk = Desks.aged(time);
            desk.set(1, 0);
            desk.strike(1, -100);
            desk.setAxis(1, 1, -500);
            Check.due("500 ticks from " + time, desk.arrives(0), 500);
            desk.setAxis(1, 1, -501);
            Check.due("501 ticks from " + time, desk.arrives(0), NONE);
            Check.due("the time stays", desk.time(), time);
        }
    }

    /** "The set of the wheels that have not failed, without each one of which the others still span." */
    private static void spareOfNone() {
        Check.due("no wheel", new WheelDesk().spare(), 0);
        Check.due("all failed", Desks.allFailed().spare(), 0);
        Check.due("in a plane", Desks.flat().spare(), 0);
        Check.due("three", Desks.threeWheels().spare(), 0);
        WheelDesk desk = new WheelDesk();
        desk.addWheel(1, 2, 3, 1, 1);
        Check.due("one", desk.spare(), 0);
        desk.addWheel(3, 2, 1, 1, 1);
        Check.due("two", desk.spare(), 0);
    }

    private static void spareOfSix() {
        Check.due("six", Desks.full().spare(), 63);
        Check.due("pairs", Desks.pairs().spare(), 63);
        for (int needed = 0; needed < 6; needed++) {
            WheelDesk desk = new WheelDesk();
            for (int k = 0; k < 6; k++) {
                desk.addWheel(k == needed ? 0 : 1, k == needed ? 0 : k - 3, k == needed ? 9 : 0, 1, 1);
            }
            Check.due("all but wheel " + needed, desk.spare(), 63 - (1 << needed));
        }
    }

    private static void spareWithFailedOnes() {
        for (int k = 0; k < 6; k++) {
            WheelDesk desk = Desks.pairs();
            desk.fail(k, true);
            int pair = 1 << k | 1 << (k + 3) % 6;
            Check.due("not the failed wheel " + k + ", nor what is left of its pair", desk.spare(), 63 - pair);
            desk.fail((k + 3) % 6, true);
            Check.due("they do not span", desk.spare(), 0);
            desk.fail(k, false);
            Check.due("one of the pair works again", desk.spare(), 63 - pair);
        }
    }

    /** "NONE if all have failed, or there are none"; "of those that have not failed". */
    private static void gravestOfNone() {
        for (int ticks : new int[] {1, 100}) {
            Check.due("no wheel", new WheelDesk().gravest(ticks), NONE);
            Check.due("all failed", Desks.allFailed().gravest(ticks), NONE);
            for (int k = 0; k < 6; k++) {
                WheelDesk desk = Desks.allFailed();
                desk.fail(k, false);
                Check.due("wheel " + k + " alone works", desk.gravest(ticks), k);
            }
        }
        for (int failed = 0; failed < 3; failed++) {
            WheelDesk desk = Desks.threeWheels();
            desk.setAxis(0, 1, 1000);
            desk.fail(failed, true);
            Check.due("not the failed wheel " + failed, desk.gravest(10), failed == 0 ? 1 : 0);
        }
    }

    /** "Of several the smallest number." */
    private static void gravestOfSeveral() {
        Check.due("at rest, at the target", Desks.pairs().gravest(100), 0);
        WheelDesk desk = Desks.pairs();
        desk.setAxis(1, 1, 1000);
        for (int k = 0; k < 5; k++) {
            Check.due("wheels " + k + " and more", desk.gravest(1), firstNeeded(desk, k));
            desk.fail(k, true);
        }
        Check.due("the last one", desk.gravest(1), 5);
    }

    /** The first wheel that works and whose failure stops the craft, or else the first one that works. */
    private static int firstNeeded(WheelDesk desk, int first) {
        for (int k = first; k < 6; k++) {
            if (desk.span() != 0 && (desk.spare() & 1 << k) == 0) {
                return k;
            }
        }
        return first;
    }

    /** "It has failed from the first of them on": one tick makes a difference. */
    private static void gravestFromTheFirstTick() {
        for (int axis = 0; axis < 3; axis++) {
            int strong = axis + 3;
            WheelDesk desk = Desks.pairs();
            desk.setMost(axis, true, 100);
            desk.setAxis(axis, 1, -10000);
            Check.due("the strong one of a pair", desk.gravest(1), strong);
            Check.due("the strong one of a pair", desk.gravest(30), strong);
            desk.fail(axis, true);
            desk.setAxis(axis, 1, 10000);
            Check.due("the last one at the axis", desk.gravest(1), strong);
        }
    }

    /** Without a wheel of a pair the craft lags at its axis; the sum over all axes counts, not one of them. */
    private static WheelDesk lagging() {
        WheelDesk desk = new WheelDesk();
        desk.addWheel(1, 0, 0, 1000000, 600);
        desk.addWheel(0, 1, 0, 1000000, 100);
        desk.addWheel(0, 0, 1, 1000000, 100);
        desk.addWheel(1, 0, 0, 1000000, 100);
        desk.addWheel(0, 1, 1, 1000000, 500);
        desk.addWheel(0, 1, -1, 1000000, 500);
        desk.setAxis(0, 1, 5000);
        desk.setAxis(1, 1, 5000);
        desk.setAxis(2, 1, -5000);
        return desk;
    }

    private static void gravestOverAllAxes() {
        asMade("lagging", TrialEdgesTest::lagging, 25);
    }

    /** What is tried for some ticks is what comes if the wheel fails and they are made. */
    private static void gravestAsMade() {
        asMade("under way", TrialEdgesTest::underWay, 100);
        asMade("busy", Desks::busy, 100);
        asMade("six wheels", () -> {
            WheelDesk desk = Desks.full();
            desk.setAxis(0, 1, 300);
            desk.setAxis(1, 1, -200);
            desk.strike(2, 999);
            return desk;
        }, 100);
        asMade("in a plane", () -> {
            WheelDesk desk = Desks.flat();
            desk.setAxis(0, 1, 300);
            return desk;
        }, 3);
    }

    private static void asMade(String name, java.util.function.Supplier<WheelDesk> maker, int most) {
        for (int ticks = 1; ticks <= most; ticks++) {
            int due = NONE;
            long greatest = -1;
            for (int k = 0; k < maker.get().wheels(); k++) {
                WheelDesk desk = maker.get();
                if (desk.fail(k, true) == 0) {
                    desk.tick(ticks);
                    long off = 0;
                    for (int axis = 0; axis < 3; axis++) {
                        off += Math.abs(desk.axis(axis, 6) - desk.axis(axis, 0));
                    }
                    due = off > greatest ? k : due;
                    greatest = Math.max(off, greatest);
                }
            }
            Check.due(name + ": gravest(" + ticks + ")", maker.get().gravest(ticks), due);
        }
    }

    private static void gravestBeyondTheGreatestTime() {
        for (int time : new int[] {49901, 49999, 50000}) {
            for (int axis = 0; axis < 3; axis++) {
                WheelDesk desk = Desks.aged(time);
                desk.addWheel(1, 0, 0, 1000000, 100000);
                desk.addWheel(0, 1, 0, 1000000, 100000);
                desk.addWheel(0, 0, 1, 1000000, 100000);
                desk.setMost(axis, true, 10);
                desk.setAxis(axis, 1, 1000000);
                Check.due("100 ticks from " + time, desk.gravest(100), axis + 3);
                Check.due("1 tick from " + time, desk.gravest(1), axis + 3);
                Check.due("the time stays", desk.time(), time);
            }
        }
        // it swings through the target only in ticks beyond the greatest time
        for (int time : new int[] {0, 49900, 49999, 50000}) {
            WheelDesk desk = Desks.aged(time);
            desk.addWheel(1, 0, 0, 1000000, 100000);
            desk.strike(0, 1000);
            desk.setAxis(0, 1, 100);
            Check.due("1 tick from " + time, desk.gravest(1), 0);
            Check.due("100 ticks from " + time, desk.gravest(100), 1);
        }
    }

    /** "MOTIONS are tried without being made where a method says so." */
    private static void triedNotMade() {
        WheelDesk tried = underWay();
        WheelDesk plain = underWay();
        for (int i = 0; i < 3; i++) {
            tried.arrives(0);
            tried.gravest(100);
            tried.spare();
            tried.span();
            tried.wish(0, 100000, -100000, 7);
            tried.fullness();
            tried.arrives(1000000);
            Check.due("tick(9)", tried.tick(9), plain.tick(9));
        }
        Check.same("tried", tried, plain);
    }
}
