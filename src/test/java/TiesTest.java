/** "Of several the lowest": the hottest zone and the critical fan where some are alike. */
public final class TiesTest {
    private static final Check check = new Check();

    public static void main(String[] args) {
        hottestOfTwo();
        hottestOfAll();
        hottestBelowZero();
        criticalOfTwo();
        criticalOfAllButSome();
        criticalWithoutAnyEffect();
        check.end();
    }

    private static void hottestOfTwo() {
        for (int a = 0; a < 6; a++) {
            for (int b = a; b < 6; b++) {
                Coldaisle x = new Coldaisle();
                x.setLoad(b, 50);
                x.setLoad(a, 50);
                x.pass(1);
                check.due("P18 of zones " + a + " and " + b, x.hottest(), a);
                x.setLoad(b, 51);
                x.pass(1);
                check.due("P18 zone " + b + " by 1", x.hottest(), b);
            }
        }
    }

    private static void hottestOfAll() {
        Coldaisle x = new Coldaisle();
        check.due("P18 all alike at first", x.hottest(), 0);
        x.pass(5);
        check.due("P18 all alike later", x.hottest(), 0);
        for (int zone = 0; zone < 6; zone++) {
            x.setLoad(zone, zone == 0 ? 0 : 10);
        }
        x.pass(1);
        check.due("P18 all alike but zone 0", x.hottest(), 1);
    }

    private static void hottestBelowZero() {
        Coldaisle x = coolable();
        int[] temperatures = {1200, 412, -364};
        for (int minute = 0; minute < 3; minute++) {
            x.pass(1);
            check.due("P14 cooled by 800", x.temperature(5), temperatures[minute]);
            check.due("P18 all alike, also below 0", x.hottest(), 0);
        }
        check.due("P19 -364 + 2364 / 64 - 800", x.expected(3, 1), -1128);
        check.due("P20 all alike", x.critical(3, 1), 0);
        check.due("P21 2700 - (-364 + 36 - 700)", x.margin(3, 1), 3728);
        Coldaisle y = coolable();
        y.setEffect(7, 4, 99);
        y.pass(3);
        check.due("P14 cooled by 799", y.temperature(4), -361);
        check.due("P18 zone 4", y.hottest(), 4);
    }

    // Fans a and b alone cool zone 2, in full speed already and both by the same.
    private static void criticalOfTwo() {
        for (int a = 0; a < 8; a++) {
            for (int b = a + 1; b < 8; b++) {
                Coldaisle x = States.still();
                x.setDelay(0);
                x.setSetpoint(2, 1500);
                x.setEffect(a, 2, 10);
                x.setEffect(b, 2, 10);
                check.due("P20 of fans " + a + " and " + b, x.critical(2, 1), a);
                check.due("P21 2700 - (2000 - 10)", x.margin(2, 1), 710);
                x.setEffect(b, 2, 11);
                check.due("P20 fan " + b + " by 1", x.critical(2, 1), b);
                x.setEffect(b, 2, 10);
                x.fail(a);
                check.due("P20 of those that run", x.critical(2, 1), b);
                check.due("P21 2700 - 2000", x.margin(2, 1), 700);
            }
        }
    }

    private static void criticalOfAllButSome() {
        Coldaisle x = new Coldaisle();
        for (int fan = 0; fan < 8; fan++) {
            check.due("P20 all alike, the lowest that runs", x.critical(5, 1), fan);
            x.fail(fan);
        }
        check.due("P20 none runs", x.critical(5, 1), Coldaisle.NONE);
        x.repair(7);
        check.due("P20 fan 7 alone", x.critical(5, 60), 7);
        x.repair(3);
        check.due("P20 fan 3 is lower, and alike within a minute", x.critical(5, 1), 3);
    }

    private static void criticalWithoutAnyEffect() {
        Coldaisle x = States.still();
        for (int zone = 0; zone < 6; zone++) {
            check.due("P20 no fan has an effect", x.critical(zone, 60), 0);
            check.due("P21 no fan has an effect", x.margin(zone, 60), 700);
        }
        x.fail(0);
        check.due("P20 and fan 0 has failed", x.critical(5, 60), 1);
    }

    /** All zones want to be cooled by 800 a minute for some minutes, by sums at their bound. */
    private static Coldaisle coolable() {
        Coldaisle x = States.still();
        x.setGains(0, 200);
        x.setDelay(0);
        for (int zone = 0; zone < 6; zone++) {
            x.setSetpoint(zone, 1500);
        }
        x.pass(40);
        for (int zone = 0; zone < 6; zone++) {
            for (int fan = 0; fan < 8; fan++) {
                x.setEffect(fan, zone, 100);
            }
        }
        return x;
    }
}
