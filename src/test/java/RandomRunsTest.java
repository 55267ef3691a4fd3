import java.util.Random;

/** All promises: long runs of calls, each answered as PlainHall answers it. */
public final class RandomRunsTest {
    private static final int RUNS = 600;
    private static final int CALLS = 512;
    private static final long REFUSED_ARGUMENT = Long.MIN_VALUE;
    private static final long REFUSED_STATE = Long.MIN_VALUE + 1;

    private static final String[] SETTINGS = {
        "setLoad", "setSetpoint", "setEffect", "setGains", "setHall", "setDelay", "fail", "repair"};
    private static final String[] READINGS = {
        "command", "speed", "temperature", "demand", "errors", "hotMinutes", "clock", "hottest"};
    private static final String[] FORECASTS = {"expected", "critical", "margin"};

    private static final Check check = new Check();

    public static void main(String[] args) {
        for (int run = 0; run < RUNS; run++) {
            run(run, new Random(run));
        }
        check.end();
    }

    private static void run(int run, Random random) {
        Coldaisle x = new Coldaisle();
        PlainHall plain = new PlainHall();
        int longest = run % 10 == 0 ? 300 : 12;
        for (int call = 0; call < CALLS; call++) {
            String name = pick(random, run);
            int[] a = arguments(name, random, longest);
            long due = dueAnswer(plain, name, a);
            long got = answer(x, name, a);
            check.due("run " + run + ", call " + call + ": " + name + "(" + a[0] + ", " + a[1]
                    + ", " + a[2] + ")", got, due);
            if (got != due) {
                return;
            }
        }
    }

    private static String pick(Random random, int run) {
        int kind = random.nextInt(100);
        int settings = run % 3 == 0 ? 10 : 40;
        if (kind < settings) {
            return SETTINGS[random.nextInt(SETTINGS.length)];
        }
        if (kind < settings + 20) {
            return "pass";
        }
        if (kind < settings + 24) {
            return FORECASTS[random.nextInt(FORECASTS.length)];
        }
        return READINGS[random.nextInt(READINGS.length)];
    }

    private static int[] arguments(String name, Random random, int longest) {
        switch (name) {
            case "setLoad": return three(random, 0, 5, 0, 200, 0, 0);
            case "setSetpoint": return three(random, 0, 5, 1500, 3500, 0, 0);
            case "setEffect": return three(random, 0, 7, 0, 5, 0, 100);
            case "setGains": return three(random, 0, 200, 0, 200, 0, 0);
            case "setHall": return three(random, 1000, 5000, 1000, 5000, 0, 0);
            case "setDelay": return three(random, 0, 8, 0, 0, 0, 0);
            case "fail": case "repair": case "command": case "speed":
                return three(random, 0, 7, 0, 0, 0, 0);
            case "pass": return new int[] {minutes(random, longest), 0, 0};
            case "expected": case "critical": case "margin":
                return three(random, 0, 5, 1, 60, 0, 0);
            default: return three(random, 0, 5, 0, 0, 0, 0);
        }
    }

    private static int minutes(Random random, int longest) {
        if (longest == 300 && random.nextInt(4) > 0) {
            return 300;
        }
        return random.nextInt(30) == 0 ? value(random, 1, 300) : 1 + random.nextInt(longest);
    }

    private static int[] three(Random random, int... bounds) {
        return new int[] {value(random, bounds[0], bounds[1]), value(random, bounds[2], bounds[3]),
            value(random, bounds[4], bounds[5])};
    }

    /** Mostly within the bounds, often at one of them, sometimes beyond. */
    private static int value(Random random, int least, int most) {
        switch (random.nextInt(60)) {
            case 0: return least - 1;
            case 1: return most + 1;
            case 2: return random.nextInt();
            case 3: case 4: case 5: case 6: return least;
            case 7: case 8: case 9: case 10: return most;
            default: return least + random.nextInt(most - least + 1);
        }
    }

    private static long dueAnswer(PlainHall plain, String name, int[] a) {
        try {
            return plain.call(name, a[0], a[1], a[2]);
        } catch (PlainHall.OutOfRange e) {
            return REFUSED_ARGUMENT;
        } catch (PlainHall.WrongState e) {
            return REFUSED_STATE;
        }
    }

    private static long answer(Coldaisle x, String name, int[] a) {
        try {
            return call(x, name, a[0], a[1], a[2]);
        } catch (RuntimeException e) {
            if (e.getClass() == IllegalArgumentException.class) {
                return REFUSED_ARGUMENT;
            }
            if (e.getClass() == IllegalStateException.class) {
                return REFUSED_STATE;
            }
            throw e;
        }
    }

    private static long call(Coldaisle x, String name, int a, int b, int c) {
        switch (name) {
            case "setLoad": return x.setLoad(a, b);
            case "setSetpoint": return x.setSetpoint(a, b);
            case "setEffect": return x.setEffect(a, b, c);
            case "setGains": x.setGains(a, b); return 0;
            case "setHall": x.setHall(a, b); return 0;
            case "setDelay": return x.setDelay(a);
            case "fail": return x.fail(a);
            case "repair": return x.repair(a);
            case "command": return x.command(a);
            case "speed": return x.speed(a);
            case "pass": return x.pass(a);
            case "clock": return x.clock();
            case "temperature": return x.temperature(a);
            case "demand": return x.demand(a);
            case "errors": return x.errors(a);
            case "hotMinutes": return x.hotMinutes(a);
            case "hottest": return x.hottest();
            case "expected": return x.expected(a, b);
            case "critical": return x.critical(a, b);
            case "margin": return x.margin(a, b);
            default: throw new AssertionError(name);
        }
    }
}
