/** Promises 19 to 21: forecasts, which change nothing. */
public final class WhatIfTest {
    private static final Check check = new Check();

    public static void main(String[] args) {
        expectedIsTheGreatestBehindAny();
        expectedIsWhatComes();
        criticalFans();
        criticalOfEquals();
        criticalLooksForThePeak();
        marginIsWhatComes();
        noFanRuns();
        ranges();
        nothingChanges();
        check.end();
    }

    private static void expectedIsTheGreatestBehindAny() {
        Coldaisle x = new Coldaisle();
        x.setHall(1000, 2700);
        check.due("P19 falling: behind the first minute", x.expected(0, 60), 1984);
        x.setHall(2500, 2700);
        check.due("P19 growing: behind the last minute", x.expected(0, 2), 2014);
        check.due("P19 one minute", x.expected(5, 1), 2007);
    }

    private static void expectedIsWhatComes() {
        for (int minutes = 1; minutes <= 60; minutes += 7) {
            Coldaisle x = loaded();
            for (int zone = 0; zone < 6; zone++) {
                int forecast = x.expected(zone, minutes);
                Coldaisle y = loaded();
                check.due("P19 " + minutes + " minutes", forecast, States.peak(y, zone, minutes));
            }
        }
    }

    // Zone 0 calls for full speed at once; fan 0 cools it by 60, fans 6 and 7 by 20 each.
    private static void criticalFans() {
        Coldaisle x = new Coldaisle();
        x.setDelay(0);
        x.setSetpoint(0, 1500);
        check.due("P19 2007 - 100", x.expected(0, 1), 1907);
        check.due("P20 zone 0", x.critical(0, 1), 0);
        check.due("P21 2700 - (2007 - 40)", x.margin(0, 1), 733);
        check.due("P20 zone 1 is cooled by fans 6 and 7", x.critical(1, 1), 6);
        check.due("P21 2700 - (2007 - 20)", x.margin(1, 1), 713);
        x.fail(6);
        check.due("P20 fan 6 has failed", x.critical(1, 1), 7);
        check.due("P21 2700 - 2007", x.margin(1, 1), 693);
        check.due("P20 zone 0 still", x.critical(0, 1), 0);
        x.setEffect(7, 0, 61);
        check.due("P20 by the effects", x.critical(0, 1), 7);
        x.setHall(2500, 1900);
        check.due("P21 below 0", x.margin(0, 1), 1900 - (2007 - 60));
    }

    private static void criticalOfEquals() {
        Coldaisle x = new Coldaisle();
        check.due("P20 of equals the lowest", x.critical(0, 1), 0);
        x.fail(0);
        x.fail(1);
        check.due("P20 of equals that run", x.critical(0, 1), 2);
        for (int fan = 2; fan < 7; fan++) {
            x.fail(fan);
        }
        check.due("P20 the only one that runs", x.critical(0, 1), 7);
    }

    // Fan 3 has failed already; each other one is let fail in a hall of its own.
    private static void criticalLooksForThePeak() {
        Coldaisle x = loaded();
        for (int minutes = 1; minutes <= 60; minutes++) {
            int critical = Coldaisle.NONE;
            int greatest = Integer.MIN_VALUE;
            for (int fan = 0; fan < 8; fan++) {
                if (fan != 3) {
                    Coldaisle y = loaded();
                    y.fail(fan);
                    int reached = States.peak(y, 2, minutes);
                    if (reached > greatest) {
                        critical = fan;
                        greatest = reached;
                    }
                }
            }
            check.due("P20 " + minutes + " minutes", x.critical(2, minutes), critical);
            check.due("P21 " + minutes + " minutes", x.margin(2, minutes), 2750 - greatest);
        }
    }

    private static void marginIsWhatComes() {
        Coldaisle x = loaded();
        for (int zone = 0; zone < 6; zone++) {
            int margin = x.margin(zone, 30);
            Coldaisle y = loaded();
            y.fail(x.critical(zone, 30));
            check.due("P21 zone " + zone, margin, 2750 - States.peak(y, zone, 30));
        }
    }

    private static void noFanRuns() {
        Coldaisle x = new Coldaisle();
        for (int fan = 0; fan < 8; fan++) {
            x.fail(fan);
        }
        x.setLoad(3, 50);
        check.due("P20 none", x.critical(3, 10), Coldaisle.NONE);
        check.due("P19 as it is", x.expected(3, 1), 2057);
        check.due("P21 as it is", x.margin(3, 1), 2700 - 2057);
        check.due("P21 as expected", x.margin(3, 60), 2700 - x.expected(3, 60));
        check.outOfRange("P20 zone", () -> x.critical(6, 10));
        check.outOfRange("P20 minutes", () -> x.critical(3, 61));
    }

    private static void ranges() {
        Coldaisle x = new Coldaisle();
        int[][] wrong = {{-1, 1}, {6, 1}, {0, 0}, {0, -1}, {0, 61}, {6, 61},
            {Integer.MIN_VALUE, 5}, {3, Integer.MAX_VALUE}, {3, Integer.MIN_VALUE}};
        for (int[] w : wrong) {
            String what = " " + w[0] + ", " + w[1];
            check.outOfRange("P19" + what, () -> x.expected(w[0], w[1]));
            check.outOfRange("P20" + what, () -> x.critical(w[0], w[1]));
            check.outOfRange("P21" + what, () -> x.margin(w[0], w[1]));
        }
        check.due("P19 the greatest arguments", x.expected(5, 60), States.peak(x, 5, 60));
    }

    private static void nothingChanges() {
        Coldaisle x = loaded();
        Coldaisle y = loaded();
        String before = States.read(x);
        for (int zone = 0; zone < 6; zone++) {
            x.expected(zone, 60);
            x.critical(zone, 60);
            x.margin(zone, 60);
        }
        check.holds("P19 to P21 change nothing", before.equals(States.read(x)));
        x.pass(20);
        y.pass(20);
        check.holds("P19 to P21 change nothing later", States.readAll(x).equals(States.readAll(y)));
        check.due("P20 left all fans as they were", x.fail(0), y.fail(0));
    }

    /** A hall with loads, a failed fan and commands on their way. */
    private static Coldaisle loaded() {
        Coldaisle x = new Coldaisle();
        for (int zone = 0; zone < 6; zone++) {
            x.setLoad(zone, 30 + 15 * zone);
        }
        x.setLoad(2, 80);
        x.setHall(2600, 2750);
        x.setDelay(4);
        x.setEffect(1, 2, 25);
        x.setEffect(4, 2, 35);
        x.fail(3);
        x.pass(17);
        return x;
    }
}
