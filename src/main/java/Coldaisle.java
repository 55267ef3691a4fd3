/**
 * A controller of the fans in a data hall: six zones, each heated by its load and cooled by up to
 * eight fans, with commands that reach the fans late and fans that may fail.
 */
public final class Coldaisle {
    /** The answer where no fan is meant. */
    public static final int NONE = -1;

    private static final int ZONES = 6;
    private static final int FANS = 8;
    private static final int FULL = 100;

    private static final int MAX_LOAD = 200;
    private static final int MIN_SETPOINT = 1500;
    private static final int MAX_SETPOINT = 3500;
    private static final int MAX_EFFECT = 100;
    private static final int MAX_GAIN = 200;
    private static final int MIN_DEGREES = 1000;
    private static final int MAX_DEGREES = 5000;
    private static final int MAX_DELAY = 8;
    private static final int MAX_PASS = 300;
    private static final int MAX_FORECAST = 60;
    private static final int MAX_CLOCK = 100000;
    private static final int MAX_ERRORS = 20000;

    private final Settings settings;
    private final Hall hall;
    // Made once and used again by every forecast, so that a forecast makes no objects.
    private final Hall trial;
    // Not in the hall: the minutes of a forecast make no zone hot.
    private final int[] hotMinutes;
    private int clock;

    public Coldaisle() {
        settings = new Settings();
        hall = new Hall();
        trial = new Hall();
        hotMinutes = new int[ZONES];
        clock = 0;
    }

    // ---- settings

    public int setLoad(int zone, int load) throws IllegalArgumentException {
        requireZone(zone);
        requireWithin(load, 0, MAX_LOAD);
        int before = settings.load[zone];
        settings.load[zone] = load;
        return before;
    }

    public int setSetpoint(int zone, int setpoint) throws IllegalArgumentException {
        requireZone(zone);
        requireWithin(setpoint, MIN_SETPOINT, MAX_SETPOINT);
        int before = settings.setpoint[zone];
        settings.setpoint[zone] = setpoint;
        // Errors against the old setpoint say nothing about the new one.
        hall.errors[zone] = 0;
        return before;
    }

    public int setEffect(int fan, int zone, int effect) throws IllegalArgumentException {
        requireFan(fan);
        requireZone(zone);
        requireWithin(effect, 0, MAX_EFFECT);
        int before = settings.effect[fan][zone];
        settings.effect[fan][zone] = effect;
        return before;
    }

    public void setGains(int p, int i) throws IllegalArgumentException {
        requireWithin(p, 0, MAX_GAIN);
        requireWithin(i, 0, MAX_GAIN);
        settings.proportional = p;
        settings.integral = i;
    }

    public void setHall(int ambient, int limit) throws IllegalArgumentException {
        requireWithin(ambient, MIN_DEGREES, MAX_DEGREES);
        requireWithin(limit, MIN_DEGREES, MAX_DEGREES);
        settings.ambient = ambient;
        settings.limit = limit;
    }

    public int setDelay(int delay) throws IllegalArgumentException {
        requireWithin(delay, 0, MAX_DELAY);
        int before = settings.delay;
        settings.delay = delay;
        return before;
    }

    // ---- fans

    public int fail(int fan) throws IllegalArgumentException, IllegalStateException {
        requireFan(fan);
        if (hall.failed[fan]) {
            throw new IllegalStateException("the fan has failed already");
        }
        hall.stopFan(fan);
        return hall.countRunning();
    }

    public int repair(int fan) throws IllegalArgumentException, IllegalStateException {
        requireFan(fan);
        if (!hall.failed[fan]) {
            throw new IllegalStateException("the fan has not failed");
        }
        hall.failed[fan] = false;
        return hall.countRunning();
    }

    public int command(int fan) throws IllegalArgumentException {
        requireFan(fan);
        return hall.commandsAgo(0)[fan];
    }

    public int speed(int fan) throws IllegalArgumentException {
        requireFan(fan);
        return hall.speed[fan];
    }

    // ---- time

    public int pass(int minutes) throws IllegalArgumentException, IllegalStateException {
        requireWithin(minutes, 1, MAX_PASS);
        if (clock + minutes > MAX_CLOCK) {
            throw new IllegalStateException("the clock would be above its greatest value");
        }
        int hot = 0;
        for (int minute = 0; minute < minutes; minute++) {
            hall.runMinute(settings);
            clock++;
            hot += noteHotZones();
        }
        return hot;
    }

    public int clock() {
        return clock;
    }

    public int temperature(int zone) throws IllegalArgumentException {
        requireZone(zone);
        return hall.temperature[zone];
    }

    public int demand(int zone) throws IllegalArgumentException {
        requireZone(zone);
        return hall.demand[zone];
    }

    public int errors(int zone) throws IllegalArgumentException {
        requireZone(zone);
        return hall.errors[zone];
    }

    public int hotMinutes(int zone) throws IllegalArgumentException {
        requireZone(zone);
        return hotMinutes[zone];
    }

    public int hottest() {
        int hottest = 0;
        for (int zone = 1; zone < ZONES; zone++) {
            if (hall.temperature[zone] > hall.temperature[hottest]) {
                hottest = zone;
            }
        }
        return hottest;
    }

    // ---- what if; nothing changes

    public int expected(int zone, int minutes) throws IllegalArgumentException {
        requireForecast(zone, minutes);
        return greatestTemperature(zone, minutes, NONE);
    }

    public int critical(int zone, int minutes) throws IllegalArgumentException {
        requireForecast(zone, minutes);
        return criticalFan(zone, minutes);
    }

    public int margin(int zone, int minutes) throws IllegalArgumentException {
        requireForecast(zone, minutes);
        int fan = criticalFan(zone, minutes);
        return settings.limit - greatestTemperature(zone, minutes, fan);
    }

    private int criticalFan(int zone, int minutes) {
        int critical = NONE;
        int greatest = 0;
        for (int fan = 0; fan < FANS; fan++) {
            if (!hall.failed[fan]) {
                int reached = greatestTemperature(zone, minutes, fan);
                if (critical == NONE || reached > greatest) {
                    critical = fan;
                    greatest = reached;
                }
            }
        }
        return critical;
    }

    // With NONE as the fan that fails, all fans stay as they are.
    private int greatestTemperature(int zone, int minutes, int failing) {
        trial.copyFrom(hall);
        if (failing != NONE) {
            trial.stopFan(failing);
        }
        trial.runMinute(settings);
        int greatest = trial.temperature[zone];
        for (int minute = 1; minute < minutes; minute++) {
            trial.runMinute(settings);
            greatest = Math.max(greatest, trial.temperature[zone]);
        }
        return greatest;
    }

    private int noteHotZones() {
        int hot = 0;
        for (int zone = 0; zone < ZONES; zone++) {
            if (hall.temperature[zone] > settings.limit) {
                hotMinutes[zone]++;
                hot++;
            }
        }
        return hot;
    }

    private static void requireForecast(int zone, int minutes) {
        requireZone(zone);
        requireWithin(minutes, 1, MAX_FORECAST);
    }

    private static void requireZone(int zone) {
        requireWithin(zone, 0, ZONES - 1);
    }

    private static void requireFan(int fan) {
        requireWithin(fan, 0, FANS - 1);
    }

    private static void requireWithin(int value, int least, int most) {
        if (value < least || value > most) {
            throw new IllegalArgumentException("an argument is out of range");
        }
    }

    private static int holdWithin(int value, int least, int most) {
        return Math.max(least, Math.min(most, value));
    }

    /** What calls tell the hall; minutes leave it as it is. */
    private static final class Settings {
        final int[] load;
        final int[] setpoint;
        final int[][] effect;
        int proportional;
        int integral;
        int ambient;
        int limit;
        int delay;

        Settings() {
            load = new int[ZONES];
            setpoint = new int[ZONES];
            effect = new int[FANS][ZONES];
            for (int zone = 0; zone < ZONES; zone++) {
                setpoint[zone] = 2200;
                effect[zone][zone] = 60;
                for (int fan = ZONES; fan < FANS; fan++) {
                    effect[fan][zone] = 20;
                }
            }
            proportional = 20;
            integral = 10;
            ambient = 2500;
            limit = 2700;
            delay = 2;
        }
    }

    /** What minutes change: zones, commands and fans. */
    private static final class Hall {
        // The greatest delay reaches back MAX_DELAY minutes behind the newest one.
        private static final int MINUTES_KEPT = MAX_DELAY + 1;

        final int[] temperature;
        final int[] errors;
        final int[] demand;
        final boolean[] failed;
        final int[] speed;
        // A ring of the last minutes, each with the commands of all fans.
        private final int[][] commands;
        private int lastMinute;

        Hall() {
            temperature = new int[ZONES];
            errors = new int[ZONES];
            demand = new int[ZONES];
            failed = new boolean[FANS];
            speed = new int[FANS];
            commands = new int[MINUTES_KEPT][FANS];
            lastMinute = 0;
            for (int zone = 0; zone < ZONES; zone++) {
                temperature[zone] = 2000;
            }
        }

        void copyFrom(Hall other) {
            System.arraycopy(other.temperature, 0, temperature, 0, ZONES);
            System.arraycopy(other.errors, 0, errors, 0, ZONES);
            System.arraycopy(other.demand, 0, demand, 0, ZONES);
            System.arraycopy(other.speed, 0, speed, 0, FANS);
            for (int fan = 0; fan < FANS; fan++) {
                failed[fan] = other.failed[fan];
            }
            for (int minute = 0; minute < MINUTES_KEPT; minute++) {
                System.arraycopy(other.commands[minute], 0, commands[minute], 0, FANS);
            }
            lastMinute = other.lastMinute;
        }

        void stopFan(int fan) {
            failed[fan] = true;
            speed[fan] = 0;
        }

        int countRunning() {
            int running = 0;
            for (int fan = 0; fan < FANS; fan++) {
                if (!failed[fan]) {
                    running++;
                }
            }
            return running;
        }

        int[] commandsAgo(int minutes) {
            return commands[Math.floorMod(lastMinute - minutes, MINUTES_KEPT)];
        }

        void runMinute(Settings settings) {
            for (int zone = 0; zone < ZONES; zone++) {
                int wanted = control(settings, zone);
                demand[zone] = raiseForFailures(settings, zone, wanted);
            }
            commandFans(settings);
            turnFans(settings);
            for (int zone = 0; zone < ZONES; zone++) {
                temperature[zone] = nextTemperature(settings, zone);
            }
        }

        private int control(Settings settings, int zone) {
            int error = temperature[zone] - settings.setpoint[zone];
            int sum = holdWithin(errors[zone] + error, -MAX_ERRORS, MAX_ERRORS);
            errors[zone] = sum;
            int integralPart = Math.floorDiv(settings.integral * sum, 100);
            int wanted = Math.floorDiv(settings.proportional * error + integralPart, 100);
            return holdWithin(wanted, 0, FULL);
        }

        private int raiseForFailures(Settings settings, int zone, int wanted) {
            int ofAll = 0;
            int ofRunning = 0;
            for (int fan = 0; fan < FANS; fan++) {
                int effect = settings.effect[fan][zone];
                ofAll += effect;
                if (!failed[fan]) {
                    ofRunning += effect;
                }
            }
            // A failed fan without an effect on the zone leaves both sums alike too.
            if (ofRunning == ofAll) {
                return wanted;
            }
            if (ofRunning == 0) {
                return FULL;
            }
            return Math.min(FULL, Math.floorDiv(wanted * ofAll, ofRunning));
        }

        private void commandFans(Settings settings) {
            lastMinute = Math.floorMod(lastMinute + 1, MINUTES_KEPT);
            int[] given = commandsAgo(0);
            for (int fan = 0; fan < FANS; fan++) {
                given[fan] = greatestDemand(settings.effect[fan]);
            }
        }

        private int greatestDemand(int[] effectOfFan) {
            int greatest = 0;
            for (int zone = 0; zone < ZONES; zone++) {
                if (effectOfFan[zone] > 0) {
                    greatest = Math.max(greatest, demand[zone]);
                }
            }
            return greatest;
        }

        private void turnFans(Settings settings) {
            int[] arriving = commandsAgo(settings.delay);
            for (int fan = 0; fan < FANS; fan++) {
                speed[fan] = failed[fan] ? 0 : arriving[fan];
            }
        }

        private int nextTemperature(Settings settings, int zone) {
            int cooling = 0;
            for (int fan = 0; fan < FANS; fan++) {
                cooling += settings.effect[fan][zone] * speed[fan];
            }
            int now = temperature[zone];
            // Where the zone is warmer than the hall, / would round up.
            int drift = Math.floorDiv(settings.ambient - now, 64);
            return now + settings.load[zone] + drift - cooling / 100;
        }
    }
}
