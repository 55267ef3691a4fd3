/** What can be read of a Coldaisle without changing it. */
final class States {
    static final int ZONES = 6;
    static final int FANS = 8;

    private States() {
    }

    /** All that the reading calls answer, in one text, but for the forecasts. */
    static String read(Coldaisle x) {
        StringBuilder text = new StringBuilder();
        text.append("clock ").append(x.clock()).append(" hottest ").append(x.hottest());
        for (int zone = 0; zone < ZONES; zone++) {
            text.append(" zone ").append(x.temperature(zone));
            text.append(' ').append(x.demand(zone));
            text.append(' ').append(x.errors(zone));
            text.append(' ').append(x.hotMinutes(zone));
        }
        for (int fan = 0; fan < FANS; fan++) {
            text.append(" fan ").append(x.command(fan)).append(' ').append(x.speed(fan));
        }
        return text.toString();
    }

    /** The same with forecasts, which also show gains, ambient temperature and failures. */
    static String readAll(Coldaisle x) {
        StringBuilder text = new StringBuilder(read(x));
        for (int zone = 0; zone < ZONES; zone++) {
            text.append(" what if ").append(x.expected(zone, 60));
            text.append(' ').append(x.critical(zone, 60));
            text.append(' ').append(x.margin(zone, 60));
        }
        return text.toString();
    }

    /**
     * All there is to know of a hall, in one text: what readAll tells, what was commanded in the
     * last nine minutes, every setting, and which fans have failed. It changes the hall.
     */
    static String useUp(Coldaisle x) {
        StringBuilder text = new StringBuilder(readAll(x));
        text.append(" delay ").append(x.setDelay(8));
        for (int minute = 0; minute < 9 && x.clock() < 99900; minute++) {
            text.append(" minute ").append(x.pass(1));
            for (int fan = 0; fan < FANS; fan++) {
                text.append(' ').append(x.speed(fan));
            }
        }
        for (int zone = 0; zone < ZONES; zone++) {
            text.append(" then ").append(x.temperature(zone)).append(' ').append(x.hotMinutes(zone));
            text.append(" load ").append(x.setLoad(zone, 0));
            text.append(" setpoint ").append(x.setSetpoint(zone, 2000));
            for (int fan = 0; fan < FANS; fan++) {
                text.append(' ').append(x.setEffect(fan, zone, 0));
            }
        }
        for (int fan = 0; fan < FANS; fan++) {
            text.append(hasFailed(x, fan) ? " failed" : " runs");
        }
        return text.toString();
    }

    private static boolean hasFailed(Coldaisle x, int fan) {
        try {
            x.repair(fan);
            return true;
        } catch (IllegalStateException runs) {
            return false;
        }
    }

    /**
     * A hall in which nothing is as at first: fans 1 and 6 have failed, commands of several sizes
     * are on their way, some zones are hot, sums of errors are above and below 0.
     */
    static Coldaisle busy() {
        Coldaisle x = new Coldaisle();
        for (int zone = 0; zone < ZONES; zone++) {
            x.setLoad(zone, 20 + 17 * zone);
            x.setSetpoint(zone, 2050 + 40 * zone);
        }
        x.setEffect(0, 5, 33);
        x.setEffect(4, 2, 41);
        x.setEffect(7, 3, 9);
        x.setGains(23, 7);
        x.setHall(2600, 2280);
        x.setDelay(5);
        x.fail(1);
        x.fail(6);
        x.pass(25);
        x.setLoad(2, 190);
        x.pass(4);
        return x;
    }

    /** A hall whose temperatures stay at 2000: no effects, no load, ambient 2000. */
    static Coldaisle still() {
        Coldaisle x = new Coldaisle();
        for (int fan = 0; fan < FANS; fan++) {
            for (int zone = 0; zone < ZONES; zone++) {
                x.setEffect(fan, zone, 0);
            }
        }
        x.setHall(2000, 2700);
        return x;
    }

    static void passOften(Coldaisle x, int times, int minutes) {
        for (int i = 0; i < times; i++) {
            x.pass(minutes);
        }
    }

    /** Lets minutes pass and answers the greatest temperature of a zone behind any of them. */
    static int peak(Coldaisle x, int zone, int minutes) {
        int greatest = Integer.MIN_VALUE;
        for (int minute = 0; minute < minutes; minute++) {
            x.pass(1);
            greatest = Math.max(greatest, x.temperature(zone));
        }
        return greatest;
    }
}
