/** Counts checks, prints those that fail, and ends the program with 1 if one did. */
final class Check {
    /** A call of the class under test; a void call answers 0. */
    interface Call {
        long answer();
    }

    private int checks;
    private int failures;

    void due(String what, long got, long due) {
        checks++;
        if (got != due) {
            fail(what + " answered " + got + ", due is " + due);
        }
    }

    void holds(String what, boolean held) {
        checks++;
        if (!held) {
            fail(what);
        }
    }

    /** The call must throw an exception of exactly this class. */
    void refused(String what, Class<? extends RuntimeException> due, Call call) {
        checks++;
        try {
            fail(what + " answered " + call.answer() + ", due is " + due.getSimpleName());
        } catch (RuntimeException thrown) {
            if (thrown.getClass() != due) {
                fail(what + " threw " + thrown + ", due is " + due.getSimpleName());
            }
        }
    }

    void outOfRange(String what, Call call) {
        refused(what, IllegalArgumentException.class, call);
    }

    void wrongState(String what, Call call) {
        refused(what, IllegalStateException.class, call);
    }

    private void fail(String text) {
        failures++;
        System.out.println("  " + text);
    }

    void end() {
        System.out.println("  " + checks + " checks, " + failures + " wrong");
        if (failures > 0 || checks == 0) {
            System.exit(1);
        }
    }
}
