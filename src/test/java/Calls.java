/** The calls of the face by name, with the least and the greatest value of each argument. */
final class Calls {
    static final String[] SETTINGS = {
        "setLoad", "setSetpoint", "setEffect", "setGains", "setHall", "setDelay", "fail", "repair"};
    static final String[] READINGS = {
        "command", "speed", "temperature", "demand", "errors", "hotMinutes", "clock", "hottest"};
    static final String[] FORECASTS = {"expected", "critical", "margin"};

    private Calls() {
    }

    /** A row of least and greatest for each argument, in their order. */
    static int[][] ranges(String name) {
        switch (name) {
            case "setLoad": return new int[][] {{0, 5}, {0, 200}};
            case "setSetpoint": return new int[][] {{0, 5}, {1500, 3500}};
            case "setEffect": return new int[][] {{0, 7}, {0, 5}, {0, 100}};
            case "setGains": return new int[][] {{0, 200}, {0, 200}};
            case "setHall": return new int[][] {{1000, 5000}, {1000, 5000}};
            case "setDelay": return new int[][] {{0, 8}};
            case "fail": case "repair": case "command": case "speed": return new int[][] {{0, 7}};
            case "pass": return new int[][] {{1, 300}};
            case "temperature": case "demand": case "errors": case "hotMinutes":
                return new int[][] {{0, 5}};
            case "expected": case "critical": case "margin": return new int[][] {{0, 5}, {1, 60}};
            case "clock": case "hottest": return new int[][] {};
            default: throw new AssertionError(name);
        }
    }

    /** Makes the call with as many of the arguments as it takes; a void call answers 0. */
    static long answer(Coldaisle x, String name, int a, int b, int c) {
        switch (name) {
            case "setLoad": return x.setLoad(a, b);
            case "setSetpoint": return x.setSetpoint(a, b);
            case "setEffect": return x.setEffect(a, b, c);
            case "setGains": x.setGains(a, b); return 0;
            case "setHall": x.setHall(a, b); return 0;
            case "setDelay": return x.setDelay(a);
            case "fail": return x.fail(a);
            case "repair": return x.repair(a);
            case "command": return x.command(a);
            case "speed": return x.speed(a);
            case "pass": return x.pass(a);
            case "clock": return x.clock();
            case "temperature": return x.temperature(a);
            case "demand": return x.demand(a);
            case "errors": return x.errors(a);
            case "hotMinutes": return x.hotMinutes(a);
            case "hottest": return x.hottest();
            case "expected": return x.expected(a, b);
            case "critical": return x.critical(a, b);
            case "margin": return x.margin(a, b);
            default: throw new AssertionError(name);
        }
    }
}
