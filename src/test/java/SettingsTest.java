/** Promises 1 to 7: a new object and the settings. */
public final class SettingsTest {
    private static final Check check = new Check();

    public static void main(String[] args) {
        newObjectReads();
        newObjectSettings();
        newObjectGains();
        objectsAreApart();
        loads();
        setpoints();
        effects();
        effectsCommandAndCool();
        gains();
        integralRoundsDown();
        hall();
        delays();
        commandsOutliveDelays();
        refusalsChangeNothing();
        check.end();
    }

    private static void newObjectReads() {
        Coldaisle x = new Coldaisle();
        check.due("P1 NONE", Coldaisle.NONE, -1);
        check.due("P1 clock()", x.clock(), 0);
        check.due("P1 hottest()", x.hottest(), 0);
        for (int zone = 0; zone < 6; zone++) {
            check.due("P1 temperature", x.temperature(zone), 2000);
            check.due("P1 demand", x.demand(zone), 0);
            check.due("P1 errors", x.errors(zone), 0);
            check.due("P1 hotMinutes", x.hotMinutes(zone), 0);
            check.due("P1 expected by the ambient 2500", x.expected(zone, 1), 2007);
            check.due("P1 margin by the limit 2700", x.margin(zone, 1), 693);
        }
        for (int fan = 0; fan < 8; fan++) {
            check.due("P1 command", x.command(fan), 0);
            check.due("P1 speed", x.speed(fan), 0);
        }
    }

    private static void newObjectSettings() {
        Coldaisle x = new Coldaisle();
        for (int zone = 0; zone < 6; zone++) {
            check.due("P1 load", x.setLoad(zone, 0), 0);
            check.due("P1 setpoint", x.setSetpoint(zone, 2200), 2200);
            for (int fan = 0; fan < 8; fan++) {
                int due = fan >= 6 ? 20 : fan == zone ? 60 : 0;
                check.due("P1 effect of " + fan + " on " + zone, x.setEffect(fan, zone, 1), due);
            }
        }
        check.due("P1 delay", x.setDelay(2), 2);
        check.due("P1 all fans run", x.fail(3), 7);
    }

    // With a steady error of 10, minute n demands (20 * 10 + 10 * 10n / 100) / 100.
    private static void newObjectGains() {
        Coldaisle x = States.still();
        x.setSetpoint(4, 1990);
        x.pass(99);
        check.due("P1 gains in minute 99", x.demand(4), 2);
        x.pass(1);
        check.due("P1 gains in minute 100", x.demand(4), 3);
    }

    private static void objectsAreApart() {
        Coldaisle x = new Coldaisle();
        Coldaisle y = new Coldaisle();
        x.setLoad(0, 200);
        x.setDelay(0);
        x.setEffect(0, 0, 5);
        x.fail(2);
        x.pass(30);
        check.holds("P1 one object changed another",
                States.readAll(y).equals(States.readAll(new Coldaisle())));
    }

    private static void loads() {
        Coldaisle x = new Coldaisle();
        check.due("P2 first", x.setLoad(0, 100), 0);
        check.due("P2 again", x.setLoad(0, 200), 100);
        check.due("P2 back to 0", x.setLoad(0, 0), 200);
        check.due("P2 the least", x.setLoad(0, 37), 0);
        check.due("P2 zone 5", x.setLoad(5, 200), 0);
        x.pass(1);
        check.due("P2 zone 0 is heated", x.temperature(0), 2044);
        check.due("P2 zone 5 is heated", x.temperature(5), 2207);
        check.due("P2 zone 1 is not", x.temperature(1), 2007);
        check.outOfRange("P2 zone -1", () -> x.setLoad(-1, 0));
        check.outOfRange("P2 zone 6", () -> x.setLoad(6, 0));
        check.outOfRange("P2 load -1", () -> x.setLoad(0, -1));
        check.outOfRange("P2 load 201", () -> x.setLoad(0, 201));
        check.outOfRange("P2 far away", () -> x.setLoad(Integer.MIN_VALUE, Integer.MAX_VALUE));
        check.due("P2 refusals left it", x.setLoad(0, 1), 37);
    }

    private static void setpoints() {
        Coldaisle x = new Coldaisle();
        x.pass(1);
        check.due("P3 errors ahead", x.errors(0), -200);
        check.outOfRange("P3 zone -1", () -> x.setSetpoint(-1, 2000));
        check.outOfRange("P3 zone 6", () -> x.setSetpoint(6, 2000));
        check.outOfRange("P3 1499", () -> x.setSetpoint(0, 1499));
        check.outOfRange("P3 3501", () -> x.setSetpoint(0, 3501));
        check.due("P3 refusals left the errors", x.errors(0), -200);
        check.due("P3 the same setpoint", x.setSetpoint(0, 2200), 2200);
        check.due("P3 forgets the errors", x.errors(0), 0);
        check.due("P3 of this zone alone", x.errors(1), -200);
        check.due("P3 the least", x.setSetpoint(1, 1500), 2200);
        check.due("P3 the greatest", x.setSetpoint(1, 3500), 1500);
        check.due("P3 demand stays", x.demand(1), 0);
        check.due("P3 zone 5", x.setSetpoint(5, 2000), 2200);
        x.pass(1);
        check.due("P3 errors by the new setpoint", x.errors(1), 2007 - 3500);
        check.due("P3 errors of zone 5", x.errors(5), 7);
        check.due("P3 errors of zone 2", x.errors(2), -393);
    }

    private static void effects() {
        Coldaisle x = new Coldaisle();
        check.due("P4 first", x.setEffect(0, 0, 0), 60);
        check.due("P4 again", x.setEffect(0, 0, 100), 0);
        check.due("P4 back", x.setEffect(0, 0, 60), 100);
        check.due("P4 fan 7, zone 5", x.setEffect(7, 5, 3), 20);
        check.due("P4 fan 5, zone 0", x.setEffect(5, 0, 4), 0);
        check.due("P4 fan 0, zone 5 is another", x.setEffect(0, 5, 0), 0);
        check.outOfRange("P4 fan -1", () -> x.setEffect(-1, 0, 0));
        check.outOfRange("P4 fan 8", () -> x.setEffect(8, 0, 0));
        check.outOfRange("P4 zone -1", () -> x.setEffect(1, -1, 0));
        check.outOfRange("P4 zone 6", () -> x.setEffect(0, 6, 0));
        check.outOfRange("P4 effect -1", () -> x.setEffect(0, 0, -1));
        check.outOfRange("P4 effect 101", () -> x.setEffect(0, 0, 101));
        check.due("P4 refusals left it", x.setEffect(0, 0, 60), 60);
        check.due("P4 refusals left the next", x.setEffect(1, 0, 0), 0);
    }

    private static void effectsCommandAndCool() {
        Coldaisle x = new Coldaisle();
        x.setDelay(0);
        x.setSetpoint(0, 1500);
        x.setEffect(1, 0, 100);
        x.setEffect(6, 0, 0);
        x.pass(1);
        check.due("P4 a fan with a new effect is commanded", x.command(1), 100);
        check.due("P4 a fan without effect is not", x.command(6), 0);
        check.due("P4 fan 7 is", x.command(7), 100);
        check.due("P4 zone 0 is cooled by 60 + 100 + 20", x.temperature(0), 2007 - 180);
        check.due("P4 zone 1 is cooled by 60 + 20", x.temperature(1), 2007 - 80);
        check.due("P4 zone 2 is cooled by 20", x.temperature(2), 2007 - 20);
    }

    // With a steady error of 10, minute n demands (50 * 10 + 100 * 10n / 100) / 100.
    private static void gains() {
        Coldaisle x = States.still();
        x.setSetpoint(0, 1990);
        x.setGains(50, 100);
        check.outOfRange("P5 p -1", () -> gains(x, -1, 0));
        check.outOfRange("P5 p 201", () -> gains(x, 201, 0));
        check.outOfRange("P5 i -1", () -> gains(x, 0, -1));
        check.outOfRange("P5 i 201", () -> gains(x, 0, 201));
        x.pass(49);
        check.due("P5 minute 49", x.demand(0), 9);
        x.pass(1);
        check.due("P5 minute 50", x.demand(0), 10);
        x.setGains(0, 0);
        x.pass(1);
        check.due("P5 no gains", x.demand(0), 0);
        check.due("P5 errors are kept", x.errors(0), 510);
        x.setGains(200, 200);
        x.pass(1);
        check.due("P5 the greatest gains", x.demand(0), (2000 + 1040) / 100);
    }

    private static int gains(Coldaisle x, int p, int i) {
        x.setGains(p, i);
        return 0;
    }

    // 151 minutes with the error -1, then one with 100: the sum is -51 and -51 / 100 is -1.
    private static void integralRoundsDown() {
        Coldaisle x = States.still();
        x.setSetpoint(0, 2001);
        x.setGains(1, 1);
        x.pass(150);
        x.setLoad(0, 101);
        x.pass(1);
        check.due("P12 error sum below 0", x.errors(0), -151);
        x.pass(1);
        check.due("P12 error sum", x.errors(0), -51);
        check.due("P12 (100 - 1) / 100", x.demand(0), 0);
    }

    private static void hall() {
        Coldaisle x = new Coldaisle();
        x.setHall(1000, 5000);
        check.outOfRange("P6 ambient 999", () -> hall(x, 999, 2000));
        check.outOfRange("P6 ambient 5001", () -> hall(x, 5001, 2000));
        check.outOfRange("P6 limit 999", () -> hall(x, 2000, 999));
        check.outOfRange("P6 limit 5001", () -> hall(x, 2000, 5001));
        check.due("P6 refusals left it", x.margin(0, 1), 5000 - 1984);
        x.pass(1);
        check.due("P6 -1000 / 64 is rounded down", x.temperature(0), 1984);
        x.setHall(5000, 1000);
        check.due("P6 the limit in the margin", x.margin(0, 1), 1000 - 2031);
        check.due("P6 all zones are hot", x.pass(1), 6);
        check.due("P6 3016 / 64 is 47", x.temperature(0), 2031);
    }

    private static int hall(Coldaisle x, int ambient, int limit) {
        x.setHall(ambient, limit);
        return 0;
    }

    // One weak fan leaves zone 0 far above its setpoint, so each minute commands full speed.
    private static void delays() {
        for (int delay = 0; delay <= 8; delay++) {
            Coldaisle x = States.still();
            check.due("P7 before", x.setDelay(delay), 2);
            x.setEffect(0, 0, 1);
            x.setSetpoint(0, 1500);
            x.setGains(200, 0);
            for (int minute = 0; minute <= 9; minute++) {
                x.pass(1);
                int due = minute >= delay ? 100 : 0;
                check.due("P7 delay " + delay + " in minute " + minute, x.speed(0), due);
                check.due("P7 the command comes at once", x.command(0), 100);
            }
            check.due("P7 before that", x.setDelay(8), delay);
        }
        Coldaisle x = new Coldaisle();
        check.outOfRange("P7 delay -1", () -> x.setDelay(-1));
        check.outOfRange("P7 delay 9", () -> x.setDelay(9));
        check.due("P7 refusals left it", x.setDelay(0), 2);
    }

    // Zone 0 grows hotter and fan 0's command with it, so a speed tells which minute it is from.
    private static void commandsOutliveDelays() {
        Coldaisle x = States.still();
        x.setGains(0, 100);
        x.setSetpoint(0, 1900);
        x.setEffect(0, 0, 1);
        x.setDelay(0);
        x.setHall(2064, 5000);
        for (int minute = 1; minute <= 20; minute++) {
            x.pass(1);
            check.due("P7 minute " + minute, x.speed(0), x.command(0));
        }
        int[] given = new int[40];
        for (int minute = 0; minute < 40; minute++) {
            int delay = minute < 9 ? minute : (minute * 5) % 9;
            x.setDelay(delay);
            x.pass(1);
            given[minute] = x.command(0);
            check.holds("P7 commands differ", minute == 0 || given[minute] != given[minute - 1]);
            if (minute >= delay) {
                check.due("P7 delay " + delay, x.speed(0), given[minute - delay]);
            }
        }
    }

    private static void refusalsChangeNothing() {
        Coldaisle x = new Coldaisle();
        x.setLoad(2, 150);
        x.setDelay(1);
        x.fail(6);
        x.pass(40);
        String before = States.readAll(x);
        check.outOfRange("setLoad", () -> x.setLoad(2, 201));
        check.outOfRange("setSetpoint", () -> x.setSetpoint(2, 1499));
        check.outOfRange("setEffect", () -> x.setEffect(2, 2, 101));
        check.outOfRange("setGains", () -> gains(x, 0, 201));
        check.outOfRange("setHall", () -> hall(x, 1000, 5001));
        check.outOfRange("setDelay", () -> x.setDelay(9));
        check.outOfRange("fail", () -> x.fail(8));
        check.outOfRange("repair", () -> x.repair(8));
        check.outOfRange("pass", () -> x.pass(301));
        check.wrongState("fail again", () -> x.fail(6));
        check.wrongState("repair what runs", () -> x.repair(5));
        check.holds("refusals changed something", before.equals(States.readAll(x)));
    }
}
