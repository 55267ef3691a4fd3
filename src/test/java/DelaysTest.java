/** The delay of commands and its edges: 0 and 8, changes of it, failed and repaired fans. */
public final class DelaysTest {
    private static final Check check = new Check();

    public static void main(String[] args) {
        everyDelayFromTheFirstMinute();
        delayAtFirst();
        noneGotSoLongAgo();
        commandGotBeforeTheDelayWasSet();
        commandComesAgainWithAGreaterDelay();
        commandIsPassedOverWithALesserDelay();
        commandsOfNineMinutesAreKept();
        delayChangesNothingAtOnce();
        failedFansKeepTheirCommands();
        repairedFansStandUntilTheNextMinute();
        failsTwiceAndIsRepairedTwice();
        check.end();
    }

    /** Zone 0 commands fan 0 fully while on, not at all while off; it stays at about 2000. */
    private static Coldaisle pulsed(int delay) {
        Coldaisle x = States.still();
        x.setEffect(0, 0, 1);
        x.setGains(200, 0);
        x.setDelay(delay);
        pass(x, false, 0);
        return x;
    }

    private static void pass(Coldaisle x, boolean on, int minutes) {
        x.setSetpoint(0, on ? 1500 : 3500);
        for (int minute = 0; minute < minutes; minute++) {
            x.pass(1);
            check.due("S3 command", x.command(0), on ? 100 : 0);
        }
    }

    private static void speed(String what, Coldaisle x, int due) {
        check.due(what, x.speed(0), due);
    }

    private static void everyDelayFromTheFirstMinute() {
        for (int delay = 0; delay <= 8; delay++) {
            Coldaisle x = pulsed(delay);
            for (int minute = 1; minute <= 20; minute++) {
                pass(x, minute == 1 || minute == 3, 1);
                boolean due = minute == 1 + delay || minute == 3 + delay;
                speed("S4 delay " + delay + ", minute " + minute, x, due ? 100 : 0);
            }
        }
    }

    private static void delayAtFirst() {
        Coldaisle x = new Coldaisle();
        x.setSetpoint(0, 1500);
        x.pass(1);
        x.setSetpoint(0, 3500);
        speed("S4 minute 1", x, 0);
        x.pass(1);
        speed("S4 minute 2", x, 0);
        x.pass(1);
        speed("S4 two minutes later", x, 100);
        x.pass(1);
        speed("S4 minute 4", x, 0);
    }

    private static void noneGotSoLongAgo() {
        Coldaisle x = pulsed(8);
        pass(x, true, 8);
        speed("S4 delay 8, minute 8", x, 0);
        pass(x, true, 1);
        speed("S4 delay 8, minute 9", x, 100);
        Coldaisle y = pulsed(0);
        pass(y, true, 4);
        speed("S4 delay 0", y, 100);
        y.setDelay(5);
        pass(y, true, 1);
        speed("S4 minute 5 had none 5 minutes ago", y, 0);
        y.setDelay(8);
        pass(y, true, 3);
        speed("S4 minute 8 had none 8 minutes ago", y, 0);
        y.setDelay(7);
        pass(y, true, 1);
        speed("S4 minute 9 had one 7 minutes ago", y, 100);
    }

    private static void commandGotBeforeTheDelayWasSet() {
        for (int before = 0; before <= 8; before++) {
            for (int later = 0; later <= 8; later++) {
                Coldaisle x = pulsed(before);
                pass(x, false, 12);
                pass(x, true, 1);
                x.setDelay(later);
                for (int ago = 1; ago <= 10; ago++) {
                    pass(x, false, 1);
                    speed("P7 delay " + before + ", then " + later + ", after " + ago, x,
                            ago == later ? 100 : 0);
                }
            }
        }
    }

    private static void commandComesAgainWithAGreaterDelay() {
        Coldaisle x = pulsed(0);
        pass(x, true, 1);
        speed("P7 in the same minute", x, 100);
        for (int delay = 1; delay <= 8; delay++) {
            x.setDelay(delay);
            pass(x, false, 1);
            speed("P7 again with the delay " + delay, x, 100);
        }
        pass(x, false, 1);
        speed("P7 and not with the delay 8 once more", x, 0);
    }

    private static void commandIsPassedOverWithALesserDelay() {
        Coldaisle x = pulsed(8);
        pass(x, true, 1);
        pass(x, false, 3);
        x.setDelay(2);
        pass(x, false, 3);
        speed("P7 never with the delay 2", x, 0);
        x.setDelay(8);
        pass(x, false, 1);
        speed("P7 not yet with the delay 8", x, 0);
        pass(x, false, 1);
        speed("P7 not forgotten", x, 100);
    }

    // Long after the start, and in long runs of minutes, eight minutes back are still there.
    private static void commandsOfNineMinutesAreKept() {
        for (int minutes = 280; minutes <= 300; minutes++) {
            Coldaisle x = pulsed(0);
            x.pass(minutes);
            pass(x, true, 1);
            x.pass(300);
            speed("S4 delay 0", x, 100);
            x.setDelay(8);
            pass(x, false, 8);
            speed("S4 the last command of before", x, 100);
            pass(x, false, 1);
            speed("S4 the first command behind it", x, 0);
        }
    }

    private static void delayChangesNothingAtOnce() {
        Coldaisle x = pulsed(0);
        pass(x, true, 1);
        for (int delay = 8; delay >= 0; delay--) {
            x.setDelay(delay);
            speed("P11 the speed stays under the delay " + delay, x, 100);
            check.due("P10 so does the command", x.command(0), 100);
        }
    }

    private static void failedFansKeepTheirCommands() {
        Coldaisle x = pulsed(8);
        x.setEffect(1, 0, 1);
        x.fail(0);
        pass(x, true, 1);
        pass(x, false, 7);
        x.repair(0);
        speed("P9 repaired", x, 0);
        pass(x, false, 1);
        speed("P9 the command that it got when it had failed", x, 100);
        check.due("S4 as the other fan", x.speed(1), 100);
    }

    private static void repairedFansStandUntilTheNextMinute() {
        for (int delay = 0; delay <= 8; delay++) {
            Coldaisle x = pulsed(delay);
            pass(x, true, 10);
            x.fail(0);
            speed("P8 at once", x, 0);
            check.due("P10 the command stays", x.command(0), 100);
            x.repair(0);
            speed("P9 not at once", x, 0);
            check.due("P10 the command stays", x.command(0), 100);
            pass(x, true, 1);
            speed("P9 in the next minute", x, 100);
            x.fail(0);
            x.setSetpoint(0, 1500);
            x.pass(1);
            speed("S4 a failed fan", x, 0);
        }
    }

    private static void failsTwiceAndIsRepairedTwice() {
        Coldaisle x = pulsed(0);
        pass(x, true, 1);
        check.wrongState("P9 runs at first", () -> x.repair(0));
        speed("P9 refused: the speed stays", x, 100);
        check.due("P8 fails", x.fail(0), 7);
        check.wrongState("P8 has failed", () -> x.fail(0));
        check.wrongState("P8 has still failed", () -> x.fail(0));
        check.due("P8 another fails", x.fail(7), 6);
        x.pass(3);
        check.wrongState("P8 has failed also minutes later", () -> x.fail(0));
        check.due("P9 is repaired", x.repair(0), 7);
        check.wrongState("P9 runs", () -> x.repair(0));
        check.due("P8 fails again", x.fail(0), 6);
        check.due("P9 is repaired again", x.repair(0), 7);
        check.due("P9 the other too", x.repair(7), 8);
        check.wrongState("P9 the other runs", () -> x.repair(7));
    }
}
