/** Promises 8 to 11: fans that fail and are repaired, commands and speeds. */
public final class FansTest {
    private static final Check check = new Check();

    public static void main(String[] args) {
        failures();
        repairs();
        speedsOfFailedAndRepaired();
        failedFansKeepCommands();
        commands();
        greatestDemandCommands();
        speeds();
        check.end();
    }

    private static void failures() {
        Coldaisle x = new Coldaisle();
        check.outOfRange("P8 fan -1", () -> x.fail(-1));
        check.outOfRange("P8 fan 8", () -> x.fail(8));
        for (int fan = 7; fan >= 0; fan--) {
            int failing = fan;
            check.due("P8 fail " + fan, x.fail(fan), fan);
            check.wrongState("P8 again " + fan, () -> x.fail(failing));
        }
        check.outOfRange("P8 out of range comes first", () -> x.fail(8));
        check.due("P8 refusals left it", x.repair(0), 1);
        check.due("P8 a repaired fan may fail again", x.fail(0), 0);
    }

    private static void repairs() {
        Coldaisle x = new Coldaisle();
        check.outOfRange("P9 fan -1", () -> x.repair(-1));
        check.outOfRange("P9 fan 8", () -> x.repair(8));
        for (int fan = 0; fan < 8; fan++) {
            int running = fan;
            check.wrongState("P9 what runs " + fan, () -> x.repair(running));
        }
        for (int fan = 0; fan < 8; fan++) {
            x.fail(fan);
        }
        for (int fan = 0; fan < 8; fan++) {
            int repaired = fan;
            check.due("P9 repair " + fan, x.repair(fan), fan + 1);
            check.wrongState("P9 again " + fan, () -> x.repair(repaired));
        }
    }

    private static void speedsOfFailedAndRepaired() {
        Coldaisle x = new Coldaisle();
        x.setDelay(0);
        x.setGains(200, 0);
        x.setSetpoint(0, 1500);
        x.pass(1);
        check.due("P11 ahead", x.speed(0), 100);
        check.due("P8 fail", x.fail(0), 7);
        check.due("P8 the speed is 0 at once", x.speed(0), 0);
        check.due("P8 another is as it was", x.speed(6), 100);
        check.due("P10 the command stays", x.command(0), 100);
        x.pass(1);
        check.due("P8 the speed stays 0", x.speed(0), 0);
        check.due("P9 repair", x.repair(0), 8);
        check.due("P9 the speed is 0 until the next minute", x.speed(0), 0);
        x.pass(1);
        check.due("P9 then it runs", x.speed(0), 100);
    }

    private static void failedFansKeepCommands() {
        Coldaisle x = new Coldaisle();
        x.setDelay(3);
        x.setSetpoint(0, 1500);
        x.fail(0);
        x.pass(1);
        check.due("P10 a failed fan gets a command", x.command(0), 100);
        x.setEffect(0, 0, 0);
        x.pass(1);
        check.due("P10 without effect none", x.command(0), 0);
        x.repair(0);
        x.pass(1);
        check.due("P11 too early", x.speed(0), 0);
        x.pass(1);
        check.due("P11 the command of when it had failed", x.speed(0), 100);
        x.pass(1);
        check.due("P11 the command of the minute behind", x.speed(0), 0);
    }

    private static void commands() {
        Coldaisle x = new Coldaisle();
        x.setSetpoint(3, 1500);
        check.due("P10 at first", x.command(3), 0);
        x.pass(1);
        for (int fan = 0; fan < 8; fan++) {
            int due = fan == 3 || fan >= 6 ? 100 : 0;
            check.due("P10 command of " + fan, x.command(fan), due);
        }
        check.outOfRange("P10 fan -1", () -> x.command(-1));
        check.outOfRange("P10 fan 8", () -> x.command(8));
    }

    private static void greatestDemandCommands() {
        Coldaisle x = States.still();
        x.setGains(10, 0);
        x.setEffect(4, 0, 1);
        x.setEffect(4, 1, 100);
        x.setEffect(4, 5, 1);
        x.setEffect(5, 1, 1);
        x.setSetpoint(0, 1900);
        x.setSetpoint(1, 1800);
        x.setSetpoint(2, 1500);
        x.setSetpoint(5, 1700);
        x.pass(1);
        check.due("P15 zone 0", x.demand(0), 10);
        check.due("P15 zone 1", x.demand(1), 20);
        check.due("P15 zone 2, which no fan cools", x.demand(2), 50);
        check.due("P15 zone 3 is too cold", x.demand(3), 0);
        check.due("P15 zone 5", x.demand(5), 30);
        check.due("P10 the greatest demand", x.command(4), 30);
        check.due("P10 the only demand", x.command(5), 20);
        check.due("P10 no effect, no command", x.command(6), 0);
    }

    private static void speeds() {
        Coldaisle x = new Coldaisle();
        check.due("P11 at first", x.speed(7), 0);
        x.setSetpoint(5, 1500);
        x.pass(2);
        check.due("P11 too early", x.speed(7), 0);
        x.pass(1);
        for (int fan = 0; fan < 8; fan++) {
            int due = fan >= 5 ? 100 : 0;
            check.due("P11 speed of " + fan, x.speed(fan), due);
        }
        check.outOfRange("P11 fan -1", () -> x.speed(-1));
        check.outOfRange("P11 fan 8", () -> x.speed(8));
    }
}
