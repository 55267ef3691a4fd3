import java.math.BigDecimal;
import java.math.RoundingMode;
import java.util.ArrayList;
import java.util.List;

/**
 * The document read a second time, by other means: every command ever given is kept in a list,
 * divisions are made by BigDecimal, and a forecast runs on a hall made anew.
 */
final class PlainHall {
    static final class OutOfRange extends RuntimeException {
        private static final long serialVersionUID = 1L;
    }

    static final class WrongState extends RuntimeException {
        private static final long serialVersionUID = 1L;
    }

    private static final class Zone {
        int temperature = 2000;
        int load = 0;
        int setpoint = 2200;
        long errors = 0;
        long demand = 0;
        int hot = 0;
    }

    private static final class Fan {
        final int[] effects = new int[6];
        final List<Long> commands = new ArrayList<>();
        boolean runs = true;
        long speed = 0;
    }

    private final List<Zone> zones = new ArrayList<>();
    private final List<Fan> fans = new ArrayList<>();
    private int p = 20;
    private int i = 10;
    private int ambient = 2500;
    private int limit = 2700;
    private int delay = 2;
    private int clock = 0;

    PlainHall() {
        for (int z = 0; z < 6; z++) {
            zones.add(new Zone());
        }
        for (int f = 0; f < 8; f++) {
            Fan fan = new Fan();
            for (int z = 0; z < 6; z++) {
                fan.effects[z] = f >= 6 ? 20 : f == z ? 60 : 0;
            }
            fans.add(fan);
        }
    }

    private PlainHall copy() {
        PlainHall copy = new PlainHall();
        for (int z = 0; z < 6; z++) {
            Zone from = zones.get(z);
            Zone to = copy.zones.get(z);
            to.temperature = from.temperature;
            to.load = from.load;
            to.setpoint = from.setpoint;
            to.errors = from.errors;
            to.demand = from.demand;
            to.hot = from.hot;
        }
        for (int f = 0; f < 8; f++) {
            Fan from = fans.get(f);
            Fan to = copy.fans.get(f);
            System.arraycopy(from.effects, 0, to.effects, 0, 6);
            int given = from.commands.size();
            to.commands.addAll(from.commands.subList(Math.max(0, given - 20), given));
            to.runs = from.runs;
            to.speed = from.speed;
        }
        copy.p = p;
        copy.i = i;
        copy.ambient = ambient;
        copy.limit = limit;
        copy.delay = delay;
        copy.clock = clock;
        return copy;
    }

    /** The call of the face with this name; a void call answers 0. */
    long call(String name, int a, int b, int c) {
        switch (name) {
            case "setLoad": return setLoad(a, b);
            case "setSetpoint": return setSetpoint(a, b);
            case "setEffect": return setEffect(a, b, c);
            case "setGains": return setGains(a, b);
            case "setHall": return setHall(a, b);
            case "setDelay": return setDelay(a);
            case "fail": return setRuns(a, false);
            case "repair": return setRuns(a, true);
            case "command": return command(a);
            case "speed": return fan(a).speed;
            case "pass": return pass(a);
            case "clock": return clock;
            case "temperature": return zone(a).temperature;
            case "demand": return zone(a).demand;
            case "errors": return zone(a).errors;
            case "hotMinutes": return zone(a).hot;
            case "hottest": return hottest();
            case "expected": return expected(a, b);
            case "critical": return critical(a, b);
            case "margin": return margin(a, b);
            default: throw new AssertionError(name);
        }
    }

    private static void range(int value, int from, int to) {
        if (!(from <= value && value <= to)) {
            throw new OutOfRange();
        }
    }

    private Zone zone(int z) {
        range(z, 0, 5);
        return zones.get(z);
    }

    private Fan fan(int f) {
        range(f, 0, 7);
        return fans.get(f);
    }

    private int setLoad(int z, int load) {
        range(load, 0, 200);
        int before = zone(z).load;
        zone(z).load = load;
        return before;
    }

    private int setSetpoint(int z, int setpoint) {
        range(setpoint, 1500, 3500);
        int before = zone(z).setpoint;
        zone(z).setpoint = setpoint;
        zone(z).errors = 0;
        return before;
    }

    private int setEffect(int f, int z, int effect) {
        range(z, 0, 5);
        range(effect, 0, 100);
        int before = fan(f).effects[z];
        fan(f).effects[z] = effect;
        return before;
    }

    private int setGains(int newP, int newI) {
        range(newP, 0, 200);
        range(newI, 0, 200);
        p = newP;
        i = newI;
        return 0;
    }

    private int setHall(int newAmbient, int newLimit) {
        range(newAmbient, 1000, 5000);
        range(newLimit, 1000, 5000);
        ambient = newAmbient;
        limit = newLimit;
        return 0;
    }

    private int setDelay(int newDelay) {
        range(newDelay, 0, 8);
        int before = delay;
        delay = newDelay;
        return before;
    }

    private long setRuns(int f, boolean runs) {
        if (fan(f).runs == runs) {
            throw new WrongState();
        }
        fan(f).runs = runs;
        fan(f).speed = 0;
        return fans.stream().filter(fan -> fan.runs).count();
    }

    private long command(int f) {
        return commandAgo(fan(f), 0);
    }

    private static long commandAgo(Fan fan, int minutes) {
        int at = fan.commands.size() - 1 - minutes;
        return at < 0 ? 0 : fan.commands.get(at);
    }

    private long pass(int minutes) {
        range(minutes, 1, 300);
        if (clock > 100000 - minutes) {
            throw new WrongState();
        }
        int hot = 0;
        for (int m = 0; m < minutes; m++) {
            hot += minute();
        }
        return hot;
    }

    private static long divide(long number, long by) {
        return BigDecimal.valueOf(number).divide(BigDecimal.valueOf(by), 0, RoundingMode.FLOOR)
                .longValueExact();
    }

    /** Steps 1 to 6; answers how many zones were hot. */
    private int minute() {
        for (int z = 0; z < 6; z++) {
            zones.get(z).demand = demandOf(z);
        }
        for (Fan fan : fans) {
            long command = 0;
            for (int z = 0; z < 6; z++) {
                if (fan.effects[z] != 0) {
                    command = Math.max(command, zones.get(z).demand);
                }
            }
            fan.commands.add(command);
        }
        for (Fan fan : fans) {
            fan.speed = fan.runs ? commandAgo(fan, delay) : 0;
        }
        int hot = 0;
        for (int z = 0; z < 6; z++) {
            Zone zone = zones.get(z);
            long product = 0;
            for (Fan fan : fans) {
                product += fan.effects[z] * fan.speed;
            }
            zone.temperature = (int) (zone.temperature + zone.load
                    + divide(ambient - zone.temperature, 64) - divide(product, 100));
            if (zone.temperature > limit) {
                zone.hot++;
                hot++;
            }
        }
        clock++;
        return hot;
    }

    private long demandOf(int z) {
        Zone zone = zones.get(z);
        long e = zone.temperature - zone.setpoint;
        zone.errors = Math.max(-20000, Math.min(20000, zone.errors + e));
        long demand = divide(p * e + divide(i * zone.errors, 100), 100);
        demand = Math.max(0, Math.min(100, demand));
        long all = 0;
        long running = 0;
        boolean someFailed = false;
        boolean someRun = false;
        for (Fan fan : fans) {
            if (fan.effects[z] != 0) {
                all += fan.effects[z];
                if (fan.runs) {
                    someRun = true;
                    running += fan.effects[z];
                } else {
                    someFailed = true;
                }
            }
        }
        if (!someFailed) {
            return demand;
        }
        return someRun ? Math.min(100, divide(demand * all, running)) : 100;
    }

    private int hottest() {
        int hottest = 5;
        for (int z = 4; z >= 0; z--) {
            if (zones.get(z).temperature >= zones.get(hottest).temperature) {
                hottest = z;
            }
        }
        return hottest;
    }

    private int expected(int z, int minutes) {
        range(z, 0, 5);
        range(minutes, 1, 60);
        return copy().peak(z, minutes);
    }

    /** The greatest temperature behind any of the minutes, which pass in this hall itself. */
    private int peak(int z, int minutes) {
        List<Integer> temperatures = new ArrayList<>();
        for (int m = 0; m < minutes; m++) {
            minute();
            temperatures.add(zones.get(z).temperature);
        }
        return temperatures.stream().max(Integer::compare).get();
    }

    private int critical(int z, int minutes) {
        range(z, 0, 5);
        range(minutes, 1, 60);
        int critical = -1;
        int greatest = 0;
        for (int f = 7; f >= 0; f--) {
            if (fans.get(f).runs) {
                int peak = peakWithout(f, z, minutes);
                if (critical < 0 || peak >= greatest) {
                    critical = f;
                    greatest = peak;
                }
            }
        }
        return critical;
    }

    private int peakWithout(int f, int z, int minutes) {
        PlainHall without = copy();
        without.setRuns(f, false);
        return without.peak(z, minutes);
    }

    private int margin(int z, int minutes) {
        int critical = critical(z, minutes);
        int peak = critical < 0 ? expected(z, minutes) : peakWithout(critical, z, minutes);
        return limit - peak;
    }
}
