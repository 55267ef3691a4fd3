import java.util.Random;

/** All promises: long runs of calls, each answered as PlainHall answers it. */
public final class RandomRunsTest {
    private static final int RUNS = 600;
    private static final int CALLS = 512;
    private static final long REFUSED_ARGUMENT = Long.MIN_VALUE;
    private static final long REFUSED_STATE = Long.MIN_VALUE + 1;

    private static final Check check = new Check();

    public static void main(String[] args) {
        for (int run = 0; run < RUNS; run++) {
            run(run, new Random(run));
        }
        check.end();
    }

    private static void run(int run, Random random) {
        Coldaisle x = new Coldaisle();
        PlainHall plain = new PlainHall();
        int longest = run % 10 == 0 ? 300 : 12;
        int before = run % 150 == 0 ? nearTheClocksEnd(x, plain) : 0;
        for (int call = before; call < CALLS; call++) {
            String name = pick(random, run);
            int[] a = arguments(name, random, longest);
            long due = dueAnswer(plain, name, a);
            long got = answer(x, name, a);
            check.due("run " + run + ", call " + call + ": " + name + "(" + a[0] + ", " + a[1]
                    + ", " + a[2] + ")", got, due);
            if (got != due) {
                return;
            }
        }
    }

    private static int nearTheClocksEnd(Coldaisle x, PlainHall plain) {
        int passes = 330;
        for (int pass = 0; pass < passes; pass++) {
            check.due("far pass " + pass, x.pass(300), plain.call("pass", 300, 0, 0));
        }
        return passes;
    }

    private static String pick(Random random, int run) {
        int kind = random.nextInt(100);
        int settings = run % 3 == 0 ? 10 : 40;
        if (kind < settings) {
            return one(Calls.SETTINGS, random);
        }
        if (kind < settings + 20) {
            return "pass";
        }
        if (kind < settings + 24) {
            return one(Calls.FORECASTS, random);
        }
        return one(Calls.READINGS, random);
    }

    private static String one(String[] names, Random random) {
        return names[random.nextInt(names.length)];
    }

    private static int[] arguments(String name, Random random, int longest) {
        int[] values = new int[3];
        if (name.equals("pass")) {
            values[0] = minutes(random, longest);
            return values;
        }
        int[][] ranges = Calls.ranges(name);
        for (int i = 0; i < ranges.length; i++) {
            values[i] = value(random, ranges[i][0], ranges[i][1]);
        }
        return values;
    }

    private static int minutes(Random random, int longest) {
        if (longest == 300 && random.nextInt(4) > 0) {
            return 300;
        }
        return random.nextInt(30) == 0 ? value(random, 1, 300) : 1 + random.nextInt(longest);
    }

    /** Mostly within the bounds, often at one of them, sometimes beyond. */
    private static int value(Random random, int least, int most) {
        switch (random.nextInt(60)) {
            case 0: return least - 1;
            case 1: return most + 1;
            case 2: return random.nextInt();
            case 3: case 4: case 5: case 6: return least;
            case 7: case 8: case 9: case 10: return most;
            default: return least + random.nextInt(most - least + 1);
        }
    }

    private static long dueAnswer(PlainHall plain, String name, int[] a) {
        try {
            return plain.call(name, a[0], a[1], a[2]);
        } catch (PlainHall.OutOfRange e) {
            return REFUSED_ARGUMENT;
        } catch (PlainHall.WrongState e) {
            return REFUSED_STATE;
        }
    }

    private static long answer(Coldaisle x, String name, int[] a) {
        try {
            return Calls.answer(x, name, a[0], a[1], a[2]);
        } catch (RuntimeException e) {
            if (e.getClass() == IllegalArgumentException.class) {
                return REFUSED_ARGUMENT;
            }
            if (e.getClass() == IllegalStateException.class) {
                return REFUSED_STATE;
            }
            throw e;
        }
    }
}
