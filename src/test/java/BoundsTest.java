import java.util.Arrays;

/**
 * Every argument of every call: the least int, just below its range, its least, its greatest, just
 * above, the greatest int, in all combinations; what is refused changes nothing.
 */
public final class BoundsTest {
    private static final Check check = new Check();
    private static final String BUSY = States.useUp(States.busy());
    private static final String NEW = States.useUp(new Coldaisle());

    public static void main(String[] args) {
        for (String[] names : new String[][] {Calls.SETTINGS, Calls.READINGS, Calls.FORECASTS}) {
            for (String name : names) {
                everyCombination(name);
            }
        }
        everyCombination("pass");
        halvesAreNotTaken();
        settingsAtTheirBounds();
        setAndSetBack();
        illegalArgumentComesFirst();
        refusedForTheState();
        readingsChangeNothing();
        check.end();
    }

    private static void everyCombination(String name) {
        int[][] ranges = Calls.ranges(name);
        int combinations = 1;
        for (int i = 0; i < ranges.length; i++) {
            combinations *= 6;
        }
        for (int combination = 0; combination < combinations; combination++) {
            int[] a = new int[3];
            boolean inside = true;
            int rest = combination;
            for (int i = 0; i < ranges.length; i++) {
                a[i] = edge(ranges[i], rest % 6);
                inside &= ranges[i][0] <= a[i] && a[i] <= ranges[i][1];
                rest /= 6;
            }
            String what = name + Arrays.toString(Arrays.copyOf(a, ranges.length));
            if (inside) {
                takes(what, name, a);
            } else {
                refuses(what, name, a);
            }
        }
    }

    private static int edge(int[] range, int which) {
        int[] edges = {Integer.MIN_VALUE, range[0] - 1, range[0], range[1], range[1] + 1,
            Integer.MAX_VALUE};
        return edges[which];
    }

    private static void takes(String what, String name, int[] a) {
        Coldaisle x = new Coldaisle();
        if (name.equals("repair")) {
            x.fail(a[0]);
        }
        try {
            Calls.answer(x, name, a[0], a[1], a[2]);
            check.holds(what, true);
        } catch (RuntimeException thrown) {
            check.holds(what + " is in range and threw " + thrown, false);
        }
    }

    private static void refuses(String what, String name, int[] a) {
        Coldaisle x = States.busy();
        check.outOfRange(what, () -> Calls.answer(x, name, a[0], a[1], a[2]));
        check.holds(what + " changed a busy hall", BUSY.equals(States.useUp(x)));
        Coldaisle y = new Coldaisle();
        check.outOfRange(what, () -> Calls.answer(y, name, a[0], a[1], a[2]));
        check.holds(what + " changed a new hall", NEW.equals(States.useUp(y)));
    }

    // Two settings in one call: where one is refused, the other must not be taken.
    private static void halvesAreNotTaken() {
        Coldaisle x = States.still();
        x.setSetpoint(0, 1900);
        check.outOfRange("P5 i refused", () -> Calls.answer(x, "setGains", 200, 201, 0));
        check.outOfRange("P5 p refused", () -> Calls.answer(x, "setGains", 201, 200, 0));
        x.pass(1);
        check.due("P5 20 * 100 + 10 * 100 / 100", x.demand(0), 20);
        Coldaisle y = new Coldaisle();
        check.outOfRange("P6 limit refused", () -> Calls.answer(y, "setHall", 5000, 5001, 0));
        check.outOfRange("P6 ambient refused", () -> Calls.answer(y, "setHall", 5001, 1000, 0));
        check.due("P6 2000 + 500 / 64", y.expected(0, 1), 2007);
        check.due("P6 2700 - 2007", y.margin(0, 1), 693);
    }

    private static void settingsAtTheirBounds() {
        for (int zone = 0; zone < 6; zone += 5) {
            Coldaisle x = new Coldaisle();
            x.setLoad(zone, 200);
            x.pass(1);
            check.due("P2 the greatest load", x.temperature(zone), 2207);
            check.due("P2 returns it", x.setLoad(zone, 0), 200);
            x.pass(1);
            check.due("P2 the least load: 2207 + 293 / 64", x.temperature(zone), 2211);
            check.due("P2 returns it", x.setLoad(zone, 0), 0);
            x.setSetpoint(zone, 3500);
            x.pass(1);
            check.due("P3 the greatest setpoint", x.errors(zone), 2211 - 3500);
            check.due("P3 returns it", x.setSetpoint(zone, 1500), 3500);
            int now = x.temperature(zone);
            x.pass(1);
            check.due("P3 the least setpoint", x.errors(zone), now - 1500);
            check.due("P3 returns it", x.setSetpoint(zone, 1500), 1500);
        }
        for (int fan = 0; fan < 8; fan += 7) {
            Coldaisle x = States.still();
            x.setEffect(fan, 5, 100);
            x.setDelay(0);
            x.setSetpoint(5, 1500);
            x.pass(1);
            check.due("P4 the greatest effect", x.temperature(5), 1900);
            check.due("P4 returns it", x.setEffect(fan, 5, 0), 100);
            x.pass(1);
            check.due("P4 the least effect: 1900 + 100 / 64", x.temperature(5), 1901);
            check.due("P4 returns it", x.setEffect(fan, 5, 0), 0);
        }
    }

    private static void setAndSetBack() {
        for (int zone = 0; zone < 6; zone++) {
            Coldaisle x = States.busy();
            int load = x.setLoad(zone, 200);
            check.due("P2 load " + zone, x.setLoad(zone, load), 200);
            for (int fan = 0; fan < 8; fan++) {
                int effect = x.setEffect(fan, zone, 100);
                check.due("P4 effect of " + fan + " on " + zone,
                        x.setEffect(fan, zone, effect), 100);
            }
            x.setGains(200, 200);
            x.setGains(23, 7);
            x.setHall(5000, 1000);
            x.setHall(2600, 2280);
            check.due("P7 delay", x.setDelay(0), 5);
            check.due("P7 back", x.setDelay(5), 0);
            check.holds("P2 to P7 changed more than their own setting",
                    BUSY.equals(States.useUp(x)));
        }
    }

    private static void illegalArgumentComesFirst() {
        Coldaisle failed = new Coldaisle();
        for (int fan = 0; fan < 8; fan++) {
            failed.fail(fan);
        }
        Coldaisle running = new Coldaisle();
        Coldaisle ended = new Coldaisle();
        States.passOften(ended, 333, 300);
        ended.pass(100);
        for (int fan : new int[] {Integer.MIN_VALUE, -1, 8, Integer.MAX_VALUE}) {
            check.outOfRange("P8 where all have failed: " + fan, () -> failed.fail(fan));
            check.outOfRange("P9 where all run: " + fan, () -> running.repair(fan));
        }
        for (int minutes : new int[] {Integer.MIN_VALUE, -1, 0, 301, 100000, Integer.MAX_VALUE}) {
            check.outOfRange("P12 at the clock's end: " + minutes, () -> ended.pass(minutes));
        }
        for (int minutes : new int[] {1, 300}) {
            check.wrongState("P12 at the clock's end: " + minutes, () -> ended.pass(minutes));
        }
    }

    private static void refusedForTheState() {
        for (int fan = 0; fan < 8; fan++) {
            Coldaisle x = States.busy();
            String name = fan == 1 || fan == 6 ? "fail" : "repair";
            int same = fan;
            check.wrongState(name + "(" + fan + ")", () -> Calls.answer(x, name, same, 0, 0));
            check.wrongState(name + "(" + fan + ")", () -> Calls.answer(x, name, same, 0, 0));
            check.holds(name + "(" + fan + ") was refused and changed something",
                    BUSY.equals(States.useUp(x)));
        }
    }

    private static void readingsChangeNothing() {
        for (String[] names : new String[][] {Calls.READINGS, Calls.FORECASTS}) {
            for (String name : names) {
                Coldaisle x = States.busy();
                int[][] ranges = Calls.ranges(name);
                int greatest = ranges.length == 0 ? 0 : ranges[0][1];
                for (int a = 0; a <= greatest; a++) {
                    Calls.answer(x, name, a, 1, 0);
                    Calls.answer(x, name, a, 60, 0);
                }
                check.holds(name + " changed something", BUSY.equals(States.useUp(x)));
            }
        }
    }
}
