/** The edges of expected, critical and margin: peaks, no fan that runs, nothing is kept. */
public final class ForecastEdgesTest {
    private static final Check check = new Check();

    public static void main(String[] args) {
        criticalByThePeakNotTheEnd();
        failuresThatCool();
        noFanRuns();
        oneFanRuns();
        presentTemperatureDoesNotCount();
        peakInTheMiddle();
        forecastsUseCommandsOnTheirWay();
        forecastsKeepNothing();
        check.end();
    }

    // Zone 0 is warmest behind the first minute, when no command has arrived: all fans are alike,
    // though at the end it would be warmest without fan 3.
    private static void criticalByThePeakNotTheEnd() {
        Coldaisle x = States.still();
        x.setDelay(1);
        x.setHall(1000, 2700);
        x.setSetpoint(0, 1500);
        x.setEffect(3, 0, 5);
        check.due("P20 alike by the first minute", x.critical(0, 30), 0);
        check.due("P19 2000 - 16", x.expected(0, 30), 1984);
        check.due("P21 2700 - 1984", x.margin(0, 30), 716);
        x.setHall(2000, 2700);
        x.setLoad(0, 3);
        check.due("P20 alike in one minute", x.critical(0, 1), 0);
        check.due("P20 fan 3 in two", x.critical(0, 2), 3);
    }

    // Fans 0 and 1 cool zone 5 by 50 and 60. Zone 0 is cooled by fan 0 with 100 and fan 1 with 1,
    // zone 1 the other way round, and both demand 5. If one fan fails, the other turns fully.
    private static void failuresThatCool() {
        Coldaisle x = States.still();
        x.setDelay(0);
        x.setGains(100, 0);
        x.setSetpoint(0, 1995);
        x.setSetpoint(1, 1995);
        x.setEffect(0, 0, 100);
        x.setEffect(1, 0, 1);
        x.setEffect(0, 1, 1);
        x.setEffect(1, 1, 100);
        x.setEffect(0, 5, 50);
        x.setEffect(1, 5, 60);
        for (int fan = 2; fan < 8; fan++) {
            x.fail(fan);
        }
        check.due("P19 2000 - 110 * 5 / 100", x.expected(5, 1), 1995);
        check.due("P20 fan 1, which leaves 2000 - 50", x.critical(5, 1), 1);
        check.due("P21 cooler than as it is", x.margin(5, 1), 2700 - 1950);
        x.repair(2);
        check.due("P20 a fan without effect is worse", x.critical(5, 1), 2);
        check.due("P21 as with all that cool it", x.margin(5, 1), 2700 - 1995);
    }

    private static void noFanRuns() {
        Coldaisle x = new Coldaisle();
        for (int fan = 0; fan < 8; fan++) {
            x.fail(fan);
        }
        for (int zone = 0; zone < 6; zone++) {
            check.due("P20 NONE", x.critical(zone, 1), -1);
            check.due("P20 NONE", x.critical(zone, 60), -1);
            check.due("P21 as it is: 2700 - 2007", x.margin(zone, 1), 693);
            check.due("P21 as it is", x.margin(zone, 60), 2700 - x.expected(zone, 60));
        }
        x.setHall(1000, 1000);
        check.due("P21 as it is, falling: 1000 - 1984", x.margin(0, 60), -984);
        x.pass(1);
        for (int zone = 0; zone < 6; zone++) {
            check.due("S2 none with an effect runs", x.demand(zone), 100);
        }
        for (int fan = 0; fan < 8; fan++) {
            check.due("S3 commands go on", x.command(fan), 100);
            check.due("S4 no fan turns", x.speed(fan), 0);
        }
    }

    private static void oneFanRuns() {
        Coldaisle x = new Coldaisle();
        for (int fan = 0; fan < 7; fan++) {
            x.fail(fan);
        }
        check.due("P20 the last one", x.critical(0, 60), 7);
        check.due("P21 without it, in a minute", x.margin(0, 1), 693);
        int without = x.margin(0, 60);
        x.fail(7);
        check.due("P21 as if it had failed", without, x.margin(0, 60));
    }

    private static void presentTemperatureDoesNotCount() {
        Coldaisle x = States.still();
        x.setHall(1000, 2000);
        check.due("P14 now", x.temperature(0), 2000);
        check.due("P19 2000 - 16", x.expected(0, 1), 1984);
        check.due("P19 falling all the time", x.expected(0, 60), 1984);
        check.due("P21 2000 - 1984", x.margin(0, 60), 16);
    }

    // Minute by minute: 2050, 2099, 2047, 1996, 1952, 2002, 2051, 2096.
    private static void peakInTheMiddle() {
        Coldaisle x = middle();
        int[] temperatures = {2050, 2099, 2047, 1996, 1952, 2002, 2051, 2096};
        int[] greatest = {2050, 2099, 2099, 2099, 2099, 2099, 2099, 2099};
        for (int minute = 0; minute < 8; minute++) {
            check.due("P19 " + (minute + 1) + " minutes", x.expected(0, minute + 1),
                    greatest[minute]);
        }
        for (int minute = 0; minute < 8; minute++) {
            x.pass(1);
            check.due("P14 minute " + (minute + 1), x.temperature(0), temperatures[minute]);
        }
        check.due("P19 60 minutes", middle().expected(0, 60), States.peak(middle(), 0, 60));
        check.due("P19 59 minutes", middle().expected(0, 59), States.peak(middle(), 0, 59));
    }

    // The minute behind has commanded 100, which arrives now, though the zone wants no more.
    private static void forecastsUseCommandsOnTheirWay() {
        Coldaisle x = States.still();
        x.setDelay(1);
        x.setEffect(0, 0, 100);
        x.setSetpoint(0, 1500);
        x.pass(1);
        x.setSetpoint(0, 3500);
        check.due("P19 2000 - 100", x.expected(0, 1), 1900);
        check.due("P20 fan 0", x.critical(0, 1), 0);
        check.due("P21 2700 - 2000", x.margin(0, 1), 700);
        x.fail(0);
        check.due("P19 it has failed", x.expected(0, 1), 2000);
    }

    private static void forecastsKeepNothing() {
        Coldaisle x = middle();
        int first = x.expected(0, 60);
        x.critical(0, 60);
        x.margin(0, 60);
        x.expected(5, 1);
        check.due("P19 asked again", x.expected(0, 60), first);
        check.due("P13 no minute has passed", x.clock(), 0);
        check.due("P17 nor was any zone hot", x.hotMinutes(0), 0);
        check.due("P16 no errors", x.errors(0), 0);
        check.due("P10 no command", x.command(0), 0);
        check.due("P8 all fans run", x.fail(7), 7);
    }

    private static Coldaisle middle() {
        Coldaisle x = States.still();
        x.setDelay(1);
        x.setGains(200, 0);
        x.setSetpoint(0, 2000);
        x.setLoad(0, 50);
        x.setEffect(0, 0, 100);
        return x;
    }
}
