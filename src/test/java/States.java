/** What can be read of a Coldaisle without changing it. */
final class States {
    static final int ZONES = 6;
    static final int FANS = 8;

    private States() {
    }

    /** All that the reading calls answer, in one text, but for the forecasts. */
    static String read(Coldaisle x) {
        StringBuilder text = new StringBuilder();
        text.append("clock ").append(x.clock()).append(" hottest ").append(x.hottest());
        for (int zone = 0; zone < ZONES; zone++) {
            text.append(" zone ").append(x.temperature(zone));
            text.append(' ').append(x.demand(zone));
            text.append(' ').append(x.errors(zone));
            text.append(' ').append(x.hotMinutes(zone));
        }
        for (int fan = 0; fan < FANS; fan++) {
            text.append(" fan ").append(x.command(fan)).append(' ').append(x.speed(fan));
        }
        return text.toString();
    }

    /** The same with forecasts, which also show gains, ambient temperature and failures. */
    static String readAll(Coldaisle x) {
        StringBuilder text = new StringBuilder(read(x));
        for (int zone = 0; zone < ZONES; zone++) {
            text.append(" what if ").append(x.expected(zone, 60));
            text.append(' ').append(x.critical(zone, 60));
            text.append(' ').append(x.margin(zone, 60));
        }
        return text.toString();
    }

    /** A hall whose temperatures stay at 2000: no effects, no load, ambient 2000. */
    static Coldaisle still() {
        Coldaisle x = new Coldaisle();
        for (int fan = 0; fan < FANS; fan++) {
            for (int zone = 0; zone < ZONES; zone++) {
                x.setEffect(fan, zone, 0);
            }
        }
        x.setHall(2000, 2700);
        return x;
    }

    static void passOften(Coldaisle x, int times, int minutes) {
        for (int i = 0; i < times; i++) {
            x.pass(minutes);
        }
    }

    /** Lets minutes pass and answers the greatest temperature of a zone behind any of them. */
    static int peak(Coldaisle x, int zone, int minutes) {
        int greatest = Integer.MIN_VALUE;
        for (int minute = 0; minute < minutes; minute++) {
            x.pass(1);
            greatest = Math.max(greatest, x.temperature(zone));
        }
        return greatest;
    }
}
