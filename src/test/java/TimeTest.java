/** Promises 12 to 18: minutes that pass and what can be read behind them. */
public final class TimeTest {
    private static final Check check = new Check();

    public static void main(String[] args) {
        passCountsHotZones();
        passRange();
        passEndsWithTheClock();
        minutesInOneCallOrMany();
        coolingIsDividedAsASum();
        driftIsRoundedDown();
        temperatureFallsBelowZero();
        errorsAreHeld();
        demandIsHeld();
        demandIsRaisedForFailures();
        demandWithoutRunningFans();
        ranges();
        hottest();
        check.end();
    }

    private static void passCountsHotZones() {
        Coldaisle x = new Coldaisle();
        x.setHall(2500, 2007);
        check.due("P12 at the limit a zone is not hot", x.pass(1), 0);
        x.setHall(2500, 2014);
        x.setLoad(4, 1);
        check.due("P12 above it it is", x.pass(1), 1);
        check.due("P17 zone 4", x.hotMinutes(4), 1);
        check.due("P17 zone 0", x.hotMinutes(0), 0);
        x.setHall(2500, 1000);
        check.due("P12 zones and minutes together", x.pass(5), 30);
        check.due("P17 zone 4 then", x.hotMinutes(4), 6);
        check.due("P17 zone 0 then", x.hotMinutes(0), 5);
        x.setHall(2500, 5000);
        check.due("P12 only its own minutes", x.pass(5), 0);
        check.due("P17 is kept", x.hotMinutes(4), 6);
    }

    private static void passRange() {
        Coldaisle x = new Coldaisle();
        check.outOfRange("P12 0", () -> x.pass(0));
        check.outOfRange("P12 -1", () -> x.pass(-1));
        check.outOfRange("P12 301", () -> x.pass(301));
        check.outOfRange("P12 least int", () -> x.pass(Integer.MIN_VALUE));
        check.outOfRange("P12 greatest int", () -> x.pass(Integer.MAX_VALUE));
        check.due("P13 refusals left it", x.clock(), 0);
        x.pass(1);
        check.due("P13 clock", x.clock(), 1);
        x.pass(300);
        check.due("P13 clock then", x.clock(), 301);
    }

    private static void passEndsWithTheClock() {
        Coldaisle x = new Coldaisle();
        States.passOften(x, 333, 300);
        check.due("P13 clock", x.clock(), 99900);
        String before = States.readAll(x);
        check.wrongState("P12 above 100000", () -> x.pass(101));
        check.wrongState("P12 far above 100000", () -> x.pass(300));
        check.outOfRange("P12 out of range comes first", () -> x.pass(301));
        check.holds("P12 refusals changed something", before.equals(States.readAll(x)));
        x.pass(100);
        check.due("P13 the greatest clock", x.clock(), 100000);
        check.wrongState("P12 one minute more", () -> x.pass(1));
        check.outOfRange("P12 out of range still comes first", () -> x.pass(0));
        check.due("P13 the clock stays", x.clock(), 100000);
        check.holds("P19 looks beyond the clock's end", x.expected(0, 60) > 0);
        check.due("P20 looks beyond the clock's end", x.critical(0, 60), 0);
    }

    private static void minutesInOneCallOrMany() {
        Coldaisle x = new Coldaisle();
        Coldaisle y = new Coldaisle();
        x.setLoad(1, 90);
        y.setLoad(1, 90);
        int hot = 0;
        for (int minute = 0; minute < 200; minute++) {
            hot += x.pass(1);
        }
        check.due("P12 in one call", y.pass(200), hot);
        check.holds("P12 one call and many differ", States.readAll(x).equals(States.readAll(y)));
    }

    // Three fans with the effect 1 and the speed 50: 150 / 100 is 1, where thrice 50 / 100 is 0.
    private static void coolingIsDividedAsASum() {
        Coldaisle x = States.still();
        x.setDelay(0);
        x.setGains(10, 0);
        x.setSetpoint(0, 1500);
        x.setEffect(0, 0, 1);
        x.setEffect(1, 0, 1);
        x.setEffect(5, 0, 1);
        x.pass(1);
        check.due("P11 speed", x.speed(5), 50);
        check.due("P14 cooled by 1", x.temperature(0), 1999);
        check.due("P14 not cooled", x.temperature(1), 2000);
        x.pass(1);
        check.due("P14 1 / 64 is 0, then cooled by 1", x.temperature(0), 1998);
        Coldaisle y = States.still();
        y.setDelay(0);
        y.setGains(99, 0);
        y.setSetpoint(0, 1900);
        y.setEffect(0, 0, 1);
        y.pass(1);
        check.due("P14 99 / 100", y.temperature(0), 2000);
        y.setGains(100, 0);
        y.pass(1);
        check.due("P14 100 / 100", y.temperature(0), 1999);
    }

    // 2500 - 2052 is 7 * 64, 2500 - 2053 is one less.
    private static void driftIsRoundedDown() {
        Coldaisle x = new Coldaisle();
        x.setLoad(0, 45);
        x.setLoad(1, 46);
        x.pass(1);
        check.due("P14 zone 0", x.temperature(0), 2052);
        check.due("P14 zone 1", x.temperature(1), 2053);
        x.setLoad(0, 0);
        x.setLoad(1, 0);
        x.pass(1);
        check.due("P14 448 / 64", x.temperature(0), 2059);
        check.due("P14 447 / 64", x.temperature(1), 2059);
    }

    // Zone 0 calls for all its eight fans, which cool zone 1 by 800 a minute.
    private static void temperatureFallsBelowZero() {
        Coldaisle x = States.still();
        x.setHall(1000, 5000);
        x.setDelay(0);
        for (int fan = 0; fan < 8; fan++) {
            x.setEffect(fan, 1, 100);
        }
        x.setGains(200, 200);
        x.setSetpoint(1, 1500);
        x.pass(1);
        check.due("P14 2000 - 16 - 800", x.temperature(1), 1184);
        x.setEffect(0, 0, 1);
        for (int fan = 1; fan < 8; fan++) {
            x.setEffect(fan, 0, 1);
        }
        x.setLoad(0, 200);
        x.setSetpoint(0, 1500);
        x.setSetpoint(1, 3500);
        x.pass(1);
        check.due("P14 1184 + -184 / 64 - 800", x.temperature(1), 381);
        x.pass(1);
        check.due("P14 381 + 619 / 64 - 800", x.temperature(1), -410);
        x.pass(1);
        check.due("P14 -410 + 1410 / 64 - 800", x.temperature(1), -1188);
        check.due("P16 far below the setpoint", x.errors(1),
                (1184 - 3500) + (381 - 3500) + (-410 - 3500));
        x.pass(300);
        check.holds("P14 settles", x.temperature(1) < -49000);
        check.due("P16 held at the least", x.errors(1), -20000);
    }

    private static void errorsAreHeld() {
        Coldaisle x = States.still();
        x.setSetpoint(0, 1500);
        x.setSetpoint(1, 2500);
        x.setSetpoint(2, 1993);
        x.pass(39);
        check.due("P16 growing", x.errors(0), 19500);
        check.due("P16 falling", x.errors(1), -19500);
        x.pass(1);
        check.due("P16 the greatest", x.errors(0), 20000);
        check.due("P16 the least", x.errors(1), -20000);
        x.pass(1);
        check.due("P16 not above", x.errors(0), 20000);
        check.due("P16 not below", x.errors(1), -20000);
        check.due("P16 by 7 a minute", x.errors(2), 41 * 7);
        x.pass(280);
        check.due("P16 of zone 2", x.errors(2), 321 * 7);
    }

    private static void demandIsHeld() {
        Coldaisle x = States.still();
        x.setGains(100, 0);
        x.setSetpoint(0, 1901);
        x.setSetpoint(1, 1900);
        x.setSetpoint(2, 1899);
        x.setSetpoint(3, 2001);
        x.setSetpoint(4, 1999);
        x.setSetpoint(5, 2000);
        x.pass(1);
        check.due("P15 99", x.demand(0), 99);
        check.due("P15 100", x.demand(1), 100);
        check.due("P15 not 101", x.demand(2), 100);
        check.due("P15 not -1", x.demand(3), 0);
        check.due("P15 1", x.demand(4), 1);
        check.due("P15 0", x.demand(5), 0);
    }

    // Zone 0 has the effects 60, 20, 20; with the error 100 and p at 31 it demands 31. With the
    // delay 8 no fan turns yet, and the error stays.
    private static void demandIsRaisedForFailures() {
        Coldaisle x = new Coldaisle();
        x.setDelay(8);
        x.setHall(2000, 2700);
        x.setGains(31, 0);
        x.setSetpoint(0, 1900);
        x.setSetpoint(1, 1900);
        x.fail(6);
        x.fail(2);
        x.pass(1);
        check.due("P15 31 * 100 / 80", x.demand(0), 38);
        check.due("P10 of the raised demand", x.command(0), 38);
        check.due("P10 of a failed fan too", x.command(6), 38);
        check.due("P15 nothing to raise", x.demand(3), 0);
        x.repair(6);
        x.fail(0);
        x.pass(1);
        check.due("P15 31 * 100 / 40", x.demand(0), 77);
        check.due("P15 zone 1 has no failed fan", x.demand(1), 31);
        x.fail(7);
        x.pass(1);
        check.due("P15 31 * 100 / 20 is held", x.demand(0), 100);
        x.setEffect(0, 0, 0);
        x.setEffect(7, 0, 0);
        x.pass(1);
        check.due("P15 failed fans without effect do not count", x.demand(0), 31);
    }

    private static void demandWithoutRunningFans() {
        Coldaisle x = States.still();
        x.setEffect(3, 2, 1);
        x.fail(3);
        x.fail(4);
        x.pass(1);
        check.due("P15 none with an effect runs", x.demand(2), 100);
        check.due("P15 a zone without any fan", x.demand(1), 0);
        check.due("P10 of the fan that failed", x.command(3), 100);
        x.setEffect(5, 2, 1);
        x.pass(1);
        check.due("P15 one runs, and 0 * 2 / 1", x.demand(2), 0);
    }

    private static void ranges() {
        Coldaisle x = new Coldaisle();
        x.setLoad(5, 7);
        x.pass(1);
        check.due("P14 zone 0", x.temperature(0), 2007);
        check.due("P14 zone 5", x.temperature(5), 2014);
        check.outOfRange("P14 -1", () -> x.temperature(-1));
        check.outOfRange("P14 6", () -> x.temperature(6));
        check.outOfRange("P15 -1", () -> x.demand(-1));
        check.outOfRange("P15 6", () -> x.demand(6));
        check.outOfRange("P16 -1", () -> x.errors(-1));
        check.outOfRange("P16 6", () -> x.errors(6));
        check.outOfRange("P17 -1", () -> x.hotMinutes(-1));
        check.outOfRange("P17 6", () -> x.hotMinutes(6));
        check.outOfRange("P17 greatest int", () -> x.hotMinutes(Integer.MAX_VALUE));
    }

    private static void hottest() {
        Coldaisle x = new Coldaisle();
        check.due("P18 of equals the lowest", x.hottest(), 0);
        x.setLoad(5, 10);
        x.pass(1);
        check.due("P18 the last zone", x.hottest(), 5);
        x.setLoad(2, 20);
        x.setLoad(4, 20);
        x.pass(1);
        check.due("P18 of two the lowest", x.hottest(), 2);
        x.setLoad(0, 20);
        check.due("P18 by temperature, not by load", x.hottest(), 2);
        x.setLoad(1, 200);
        x.pass(1);
        check.due("P18 zone 1", x.hottest(), 1);
    }
}
