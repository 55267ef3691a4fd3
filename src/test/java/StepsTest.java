/** The edges of a minute, step by step, as "A minute" of the document tells them. */
public final class StepsTest {
    private static final Check check = new Check();

    public static void main(String[] args) {
        sumGrowsAheadOfTheDemand();
        sumIsHeldAtItsBounds();
        heldSumComesBack();
        demandIsHeldFromBothSides();
        integralPartAlone();
        integralPartIsRoundedDown();
        raisedDemandIsHeld();
        raisedDemandIsRoundedDown();
        noneOfThemRuns();
        oneOfThemRuns();
        failedFansWithoutEffect();
        effectsOfFailedFansChange();
        demandStaysBetweenMinutes();
        commandIsTheGreatestDemand();
        commandOfNoZone();
        allByTheTemperatureAhead();
        driftIsRoundedDown();
        coolingIsTheSumDivided();
        hotIsAboveTheLimit();
        clockGrowsByOne();
        check.end();
    }

    // Step 1: p is 0 and i 200, so a sum of 50 gives 200 * 50 / 100 / 100.
    private static void sumGrowsAheadOfTheDemand() {
        Coldaisle x = States.still();
        x.setGains(0, 200);
        x.setSetpoint(0, 1950);
        x.setSetpoint(5, 1951);
        x.pass(1);
        check.due("S1 the sum of the first minute", x.errors(0), 50);
        check.due("S1 counts in the first minute", x.demand(0), 1);
        check.due("S1 the sum of zone 5", x.errors(5), 49);
        check.due("S1 98 / 100", x.demand(5), 0);
        check.due("S1 zone 1 has its own sum", x.errors(1), -200);
    }

    private static void sumIsHeldAtItsBounds() {
        int[] setpoints = {1500, 2500, 1501, 2499, 1999, 2001};
        int[] in40 = {20000, -20000, 19960, -19960, 40, -40};
        int[] in41 = {20000, -20000, 20000, -20000, 41, -41};
        Coldaisle x = States.still();
        for (int zone = 0; zone < 6; zone++) {
            x.setSetpoint(zone, setpoints[zone]);
        }
        x.pass(39);
        check.due("S1 below the greatest", x.errors(0), 19500);
        check.due("S1 above the least", x.errors(1), -19500);
        x.pass(1);
        readsErrors("S1 minute 40", x, in40);
        x.pass(1);
        readsErrors("S1 minute 41", x, in41);
        x.pass(1);
        check.due("S1 stays at the greatest", x.errors(2), 20000);
        check.due("S1 stays at the least", x.errors(3), -20000);
        x.setSetpoint(0, 1500);
        check.due("P3 forgets the greatest sum", x.errors(0), 0);
        x.pass(1);
        check.due("P3 and starts anew", x.errors(0), 500);
    }

    private static void readsErrors(String what, Coldaisle x, int[] due) {
        for (int zone = 0; zone < 6; zone++) {
            check.due(what + " of zone " + zone, x.errors(zone), due[zone]);
        }
    }

    // What went beyond the bound is gone: the sum comes back from the bound itself.
    private static void heldSumComesBack() {
        Coldaisle x = States.still();
        x.setSetpoint(0, 2500);
        x.pass(50);
        check.due("S1 held", x.errors(0), -20000);
        x.setLoad(0, 200);
        int[] temperatures = {2200, 2396, 2589, 2779, 2966};
        int[] sums = {-20000, -20000, -20000, -19911, -19632};
        for (int minute = 0; minute < 5; minute++) {
            x.pass(1);
            check.due("S5 minute " + minute, x.temperature(0), temperatures[minute]);
            check.due("S1 minute " + minute, x.errors(0), sums[minute]);
        }
        Coldaisle y = States.still();
        y.setSetpoint(0, 1500);
        y.pass(50);
        check.due("S1 held", y.errors(0), 20000);
        y.setDelay(0);
        for (int fan = 0; fan < 8; fan++) {
            y.setEffect(fan, 0, 100);
        }
        y.pass(1);
        check.due("S5 cooled by 800", y.temperature(0), 1200);
        check.due("S1 still held", y.errors(0), 20000);
        y.pass(1);
        check.due("S1 comes back", y.errors(0), 19700);
    }

    private static void demandIsHeldFromBothSides() {
        Coldaisle x = States.still();
        x.setGains(100, 0);
        int[] setpoints = {1901, 1900, 1899, 1999, 2000, 2001};
        int[] due = {99, 100, 100, 1, 0, 0};
        for (int zone = 0; zone < 6; zone++) {
            x.setSetpoint(zone, setpoints[zone]);
        }
        x.pass(1);
        for (int zone = 0; zone < 6; zone++) {
            check.due("S1 error " + (2000 - setpoints[zone]), x.demand(zone), due[zone]);
        }
        x.setGains(200, 200);
        x.setSetpoint(0, 1500);
        x.setSetpoint(1, 3500);
        x.pass(300);
        check.due("S1 far above", x.demand(0), 100);
        check.due("S1 far below", x.demand(1), 0);
        Coldaisle y = States.still();
        y.setSetpoint(0, 1996);
        y.setGains(24, 0);
        y.pass(1);
        check.due("S1 96 / 100", y.demand(0), 0);
        y.setGains(25, 0);
        y.pass(1);
        check.due("S1 100 / 100", y.demand(0), 1);
        y.setGains(49, 0);
        y.pass(1);
        check.due("S1 196 / 100", y.demand(0), 1);
    }

    private static void integralPartAlone() {
        Coldaisle x = States.still();
        x.setSetpoint(0, 1500);
        x.pass(40);
        int[] gains = {0, 1, 49, 50, 51, 200};
        int[] due = {0, 2, 98, 100, 100, 100};
        for (int i = 0; i < gains.length; i++) {
            x.setGains(0, gains[i]);
            x.pass(1);
            check.due("S1 20000 * " + gains[i] + " / 100 / 100", x.demand(0), due[i]);
        }
    }

    // The sum falls by 1 a minute; one minute with an error above 0 then shows its part.
    private static void integralPartIsRoundedDown() {
        check.due("S1 (100 + 1 / 100) / 100", demandAfterFalling(100, 1), 1);
        check.due("S1 (100 + 0 / 100) / 100", demandAfterFalling(100, 0), 1);
        check.due("S1 (100 + -1 / 100) / 100", demandAfterFalling(100, -1), 0);
        check.due("S1 (101 + -1 / 100) / 100", demandAfterFalling(101, -1), 1);
        check.due("S1 (101 + -100 / 100) / 100", demandAfterFalling(101, -100), 1);
        check.due("S1 (101 + -101 / 100) / 100", demandAfterFalling(101, -101), 0);
    }

    /** The demand of a minute with this error, at the end of which the sum is the one told. */
    private static int demandAfterFalling(int error, int sum) {
        Coldaisle x = States.still();
        x.setGains(1, 1);
        x.setSetpoint(0, 2001);
        int minutes = error - sum;
        x.pass(minutes - 1);
        x.setLoad(0, error + 1);
        x.pass(2);
        check.due("S1 the sum", x.errors(0), sum);
        return x.demand(0);
    }

    // Step 2: of two fans with 50 each one has failed, so the demand is doubled.
    private static void raisedDemandIsHeld() {
        Coldaisle x = halfFailed();
        x.setGains(100, 0);
        int[] setpoints = {1951, 1950, 1949, 1999, 2000, 1900};
        int[] due = {98, 100, 100, 2, 0, 100};
        for (int zone = 0; zone < 6; zone++) {
            x.setSetpoint(zone, setpoints[zone]);
        }
        x.pass(1);
        for (int zone = 0; zone < 6; zone++) {
            check.due("S2 twice " + (2000 - setpoints[zone]), x.demand(zone), due[zone]);
        }
        x.setSetpoint(0, 3500);
        x.pass(1);
        check.due("S2 nothing to raise far below the setpoint", x.demand(0), 0);
    }

    /** Fans 0 and 1 with 50 on each zone, of which fan 1 has failed; nothing turns yet. */
    private static Coldaisle halfFailed() {
        Coldaisle x = States.still();
        x.setDelay(8);
        for (int zone = 0; zone < 6; zone++) {
            x.setEffect(0, zone, 50);
            x.setEffect(1, zone, 50);
        }
        x.fail(1);
        return x;
    }

    // The product is divided, not the demand: 3 * 3 / 2 is 4, where 3 / 2 * 3 is 3.
    private static void raisedDemandIsRoundedDown() {
        Coldaisle x = States.still();
        x.setDelay(8);
        x.setGains(100, 0);
        for (int zone = 0; zone < 6; zone++) {
            x.setEffect(2, zone, 2);
            x.setEffect(3, zone, 1);
            x.setSetpoint(zone, 1999 - zone);
        }
        x.fail(3);
        x.pass(1);
        int[] due = {1, 3, 4, 6, 7, 9};
        for (int zone = 0; zone < 6; zone++) {
            check.due("S2 " + (zone + 1) + " * 3 / 2", x.demand(zone), due[zone]);
        }
    }

    private static void noneOfThemRuns() {
        Coldaisle x = States.still();
        x.setEffect(0, 0, 100);
        x.setEffect(7, 1, 1);
        x.setEffect(3, 2, 50);
        x.setEffect(4, 2, 50);
        x.setSetpoint(0, 3500);
        x.setSetpoint(1, 2000);
        x.setSetpoint(2, 1500);
        x.fail(0);
        x.fail(7);
        x.fail(3);
        x.fail(4);
        x.pass(1);
        check.due("S2 the only one failed, far below the setpoint", x.demand(0), 100);
        check.due("S2 the only one failed, at the setpoint", x.demand(1), 100);
        check.due("S2 both failed, far above the setpoint", x.demand(2), 100);
        check.due("S2 no fan has an effect", x.demand(3), 0);
        check.due("S3 of a failed fan", x.command(0), 100);
        check.due("S4 a failed fan stands", x.speed(0), 0);
        for (int fan : new int[] {1, 2, 5, 6}) {
            x.fail(fan);
        }
        x.pass(300);
        check.due("S2 no fan runs at all", x.demand(0), 100);
        check.due("S2 no fan runs, none has an effect", x.demand(3), 0);
    }

    private static void oneOfThemRuns() {
        Coldaisle x = new Coldaisle();
        x.setDelay(8);
        x.setHall(2000, 2700);
        x.setGains(100, 0);
        x.setSetpoint(0, 2000);
        x.setSetpoint(1, 1999);
        x.setEffect(7, 0, 1);
        x.setEffect(7, 1, 1);
        x.fail(0);
        x.fail(1);
        x.fail(6);
        x.pass(1);
        check.due("S2 0 * 81 / 1", x.demand(0), 0);
        check.due("S2 1 * 81 / 1", x.demand(1), 81);
        x.setSetpoint(1, 1998);
        x.pass(1);
        check.due("S2 2 * 81 / 1 is held", x.demand(1), 100);
    }

    private static void failedFansWithoutEffect() {
        Coldaisle x = new Coldaisle();
        x.setDelay(8);
        x.setHall(2000, 2700);
        x.setGains(31, 0);
        x.setSetpoint(0, 1900);
        for (int fan = 1; fan <= 5; fan++) {
            x.fail(fan);
        }
        x.pass(1);
        check.due("S2 only fans of other zones failed", x.demand(0), 31);
        Coldaisle y = States.still();
        y.setGains(31, 0);
        y.setSetpoint(0, 1900);
        for (int fan = 0; fan < 8; fan++) {
            y.fail(fan);
        }
        y.pass(1);
        check.due("S2 all failed, none with an effect", y.demand(0), 31);
    }

    private static void effectsOfFailedFansChange() {
        Coldaisle x = States.still();
        x.setDelay(8);
        x.setGains(10, 0);
        x.setSetpoint(0, 1900);
        x.setEffect(0, 0, 10);
        x.fail(1);
        x.pass(1);
        check.due("S2 failed without effect", x.demand(0), 10);
        x.setEffect(1, 0, 1);
        x.pass(1);
        check.due("S2 10 * 11 / 10", x.demand(0), 11);
        x.setEffect(1, 0, 100);
        x.pass(1);
        check.due("S2 10 * 110 / 10 is held", x.demand(0), 100);
        x.setEffect(1, 0, 0);
        x.pass(1);
        check.due("S2 without effect again", x.demand(0), 10);
        x.setEffect(1, 0, 20);
        x.repair(1);
        x.pass(1);
        check.due("S2 repaired", x.demand(0), 10);
        x.fail(0);
        x.setEffect(0, 0, 30);
        x.pass(1);
        check.due("S2 10 * 50 / 20", x.demand(0), 25);
    }

    private static void demandStaysBetweenMinutes() {
        Coldaisle x = halfFailed();
        x.setGains(20, 0);
        x.setSetpoint(0, 1900);
        x.pass(1);
        check.due("S2 20 * 100 / 50", x.demand(0), 40);
        x.repair(1);
        x.setSetpoint(0, 1500);
        x.setGains(0, 0);
        x.setEffect(0, 0, 0);
        check.due("P15 is of the last minute", x.demand(0), 40);
        check.due("P10 is of the last minute", x.command(0), 40);
        x.pass(1);
        check.due("P15 of the next", x.demand(0), 0);
    }

    // Step 3: the demands of zones 0 to 5 are 10, 20, .. 60; fan f sees zone f and others.
    private static void commandIsTheGreatestDemand() {
        Coldaisle x = States.still();
        x.setDelay(8);
        x.setGains(10, 0);
        for (int zone = 0; zone < 6; zone++) {
            x.setSetpoint(zone, 1900 - 100 * zone + (zone == 5 ? 100 : 0));
        }
        x.setEffect(0, 0, 1);
        x.setEffect(1, 0, 100);
        x.setEffect(1, 1, 1);
        x.setEffect(2, 5, 1);
        x.setEffect(3, 4, 1);
        x.setEffect(3, 5, 100);
        x.setEffect(4, 2, 50);
        x.setEffect(4, 0, 50);
        x.setEffect(4, 1, 50);
        x.pass(1);
        int[] demands = {10, 20, 30, 40, 50, 50};
        for (int zone = 0; zone < 6; zone++) {
            check.due("S1 zone " + zone, x.demand(zone), demands[zone]);
        }
        int[] due = {10, 20, 50, 50, 30, 0, 0, 0};
        for (int fan = 0; fan < 8; fan++) {
            check.due("S3 fan " + fan, x.command(fan), due[fan]);
        }
        x.setEffect(7, 0, 100);
        x.fail(1);
        x.pass(1);
        check.due("S2 10 * 251 / 151", x.demand(0), 16);
        check.due("S3 by the demand that step 2 left", x.command(0), 16);
    }

    private static void commandOfNoZone() {
        Coldaisle x = States.still();
        x.setDelay(0);
        x.setGains(200, 200);
        for (int zone = 0; zone < 6; zone++) {
            x.setSetpoint(zone, 1500);
        }
        x.setEffect(7, 5, 1);
        x.pass(1);
        check.due("S3 an effect of 1", x.command(7), 100);
        check.due("S4 and its speed", x.speed(7), 100);
        for (int fan = 0; fan < 7; fan++) {
            check.due("S3 no effect, fan " + fan, x.command(fan), 0);
            check.due("S4 and its speed", x.speed(fan), 0);
        }
        x.setEffect(7, 5, 0);
        check.due("P10 is of the last minute", x.command(7), 100);
        x.pass(1);
        check.due("S3 no effect any more", x.command(7), 0);
    }

    // Step 5: 3000 / 64 is 46 and 2800 / 64 is 43: the load must not come first.
    private static void allByTheTemperatureAhead() {
        Coldaisle x = States.still();
        x.setHall(5000, 5000);
        x.setLoad(0, 200);
        x.setDelay(0);
        x.setSetpoint(1, 1500);
        x.setEffect(0, 1, 100);
        x.setEffect(1, 1, 100);
        x.pass(1);
        check.due("S5 2000 + 200 + 46", x.temperature(0), 2246);
        check.due("S5 2000 + 46 - 200", x.temperature(1), 1846);
        check.due("S5 2000 + 46", x.temperature(2), 2046);
    }

    private static void driftIsRoundedDown() {
        int[] ambients = {2000, 2001, 2063, 2064, 2127, 2128, 1999, 1937, 1936, 1935, 1000, 5000};
        int[] due = {0, 0, 0, 1, 1, 2, -1, -1, -1, -2, -16, 46};
        for (int i = 0; i < ambients.length; i++) {
            Coldaisle x = States.still();
            x.setHall(ambients[i], 2700);
            x.pass(1);
            check.due("S5 ambient " + ambients[i], x.temperature(0), 2000 + due[i]);
            check.due("S5 ambient " + ambients[i], x.temperature(5), 2000 + due[i]);
        }
    }

    // Eight fans with the effect 1 and the same speed: eight times the speed, divided by 100.
    private static void coolingIsTheSumDivided() {
        int[] gains = {0, 12, 13, 24, 25, 99, 100};
        int[] due = {0, 0, 1, 1, 2, 7, 8};
        for (int i = 0; i < gains.length; i++) {
            Coldaisle x = States.still();
            x.setDelay(0);
            x.setGains(gains[i], 0);
            x.setSetpoint(0, 1900);
            for (int fan = 0; fan < 8; fan++) {
                x.setEffect(fan, 0, 1);
            }
            x.pass(1);
            check.due("S4 speed", x.speed(7), gains[i]);
            check.due("S5 8 * " + gains[i] + " / 100", x.temperature(0), 2000 - due[i]);
        }
        Coldaisle x = States.still();
        x.setDelay(0);
        x.setSetpoint(0, 1500);
        for (int fan = 0; fan < 8; fan++) {
            x.setEffect(fan, 0, 100);
        }
        x.pass(1);
        check.due("S5 the greatest cooling", x.temperature(0), 1200);
        x.fail(3);
        x.setSetpoint(0, 1500);
        x.setGains(200, 200);
        x.setHall(1200, 2700);
        x.setLoad(0, 200);
        x.pass(2);
        check.due("S5 a failed fan does not cool", x.temperature(0), 1200 + 200 + 200 - 4);
    }

    // Step 6: by the temperature that step 5 left, and only above the limit.
    private static void hotIsAboveTheLimit() {
        Coldaisle x = States.still();
        x.setHall(2000, 2000);
        check.due("S6 at the limit", x.pass(1), 0);
        x.setHall(2000, 1999);
        check.due("S6 above by 1", x.pass(1), 6);
        x.setHall(2000, 2001);
        check.due("S6 below by 1", x.pass(1), 0);
        x.setHall(2000, 2000);
        x.setLoad(5, 1);
        check.due("S6 by the temperature behind the minute", x.pass(1), 1);
        check.due("P14 zone 5", x.temperature(5), 2001);
        x.setLoad(5, 0);
        check.due("S6 2001 - 1 / 64 is at the limit again", x.pass(1), 0);
        check.due("P17 zone 5", x.hotMinutes(5), 2);
        check.due("P17 zone 0", x.hotMinutes(0), 1);
        x.setHall(2000, 1000);
        check.due("P12 6 zones, 300 minutes", x.pass(300), 1800);
        check.due("P17 zone 5 then", x.hotMinutes(5), 302);
        x.setHall(2000, 5000);
        check.due("P17 is kept under a greater limit", x.hotMinutes(5), 302);
    }

    private static void clockGrowsByOne() {
        Coldaisle x = new Coldaisle();
        int due = 0;
        for (int minutes : new int[] {1, 300, 2, 299, 1}) {
            x.pass(minutes);
            due += minutes;
            check.due("S6 clock", x.clock(), due);
        }
    }
}
