/** The clock at 100000: what still passes up to it, what is refused, what goes on there. */
public final class ClockEndTest {
    private static final Check check = new Check();

    public static void main(String[] args) {
        clockEndsExactly();
        clockEndsWithinACall();
        allElseGoesOnAtTheClocksEnd();
        check.end();
    }

    private static void clockEndsExactly() {
        Coldaisle x = atClock(99700);
        x.pass(300);
        check.due("P12 300 minutes to the end", x.clock(), 100000);
        Coldaisle y = atClock(99999);
        String before = States.readAll(y);
        check.wrongState("P12 99999 and 2", () -> y.pass(2));
        check.wrongState("P12 99999 and 300", () -> y.pass(300));
        check.due("P13 it stays", y.clock(), 99999);
        check.holds("P12 a refused pass changed something", before.equals(States.readAll(y)));
        y.pass(1);
        check.due("P12 99999 and 1", y.clock(), 100000);
        String after = States.readAll(y);
        check.wrongState("P12 100000 and 1", () -> y.pass(1));
        check.wrongState("P12 100000 and 300", () -> y.pass(300));
        check.outOfRange("P12 100000 and 0", () -> y.pass(0));
        check.outOfRange("P12 100000 and 301", () -> y.pass(301));
        check.holds("P12 a refused pass changed something", after.equals(States.readAll(y)));
    }

    private static void clockEndsWithinACall() {
        Coldaisle x = atClock(99701);
        int temperature = x.temperature(0);
        check.wrongState("P12 99701 and 300", () -> x.pass(300));
        check.due("P12 no minute of it passed", x.clock(), 99701);
        check.due("P12 nor was any heat", x.temperature(0), temperature);
        x.pass(299);
        check.due("P12 99701 and 299", x.clock(), 100000);
    }

    private static void allElseGoesOnAtTheClocksEnd() {
        Coldaisle x = atClock(100000);
        check.due("P2 load", x.setLoad(0, 200), 0);
        check.due("P3 setpoint", x.setSetpoint(0, 1500), 2200);
        check.due("P16 errors", x.errors(0), 0);
        check.due("P4 effect", x.setEffect(0, 0, 1), 60);
        check.due("P7 delay", x.setDelay(0), 2);
        check.due("P8 fail", x.fail(3), 7);
        check.wrongState("P8 again", () -> x.fail(3));
        check.due("P9 repair", x.repair(3), 8);
        x.setGains(200, 200);
        x.setHall(5000, 5000);
        int now = x.temperature(0);
        int cooling = (1 + 20 + 20) * 100 / 100;
        int due = now + 200 + Math.floorDiv(5000 - now, 64) - cooling;
        check.due("P19 a minute beyond", x.expected(0, 1), due);
        check.due("P20 fan 6", x.critical(0, 1), 6);
        check.due("P21 without fan 6", x.margin(0, 1), 5000 - (due + 20));
        check.due("P13 the clock stays", x.clock(), 100000);
    }

    private static Coldaisle atClock(int minutes) {
        Coldaisle x = new Coldaisle();
        States.passOften(x, minutes / 300, 300);
        if (minutes % 300 > 0) {
            x.pass(minutes % 300);
        }
        check.due("P13 clock", x.clock(), minutes);
        return x;
    }
}
