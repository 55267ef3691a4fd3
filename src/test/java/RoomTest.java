import com.sun.management.ThreadMXBean;
import java.lang.management.ManagementFactory;

/** The calls of a run live in one room: no call but a constructor or a refusal makes objects. */
public final class RoomTest {
    private static final Check check = new Check();

    public static void main(String[] args) {
        ThreadMXBean threads = (ThreadMXBean) ManagementFactory.getThreadMXBean();
        long thread = Thread.currentThread().getId();
        Coldaisle x = new Coldaisle();
        run(x, 1);
        long before = threads.getThreadAllocatedBytes(thread);
        run(x, 25);
        long bytes = threads.getThreadAllocatedBytes(thread) - before;
        // A single int array a call would come to far more than this.
        check.holds("500 calls made objects of " + bytes + " bytes", bytes < 4096);
        check.end();
    }

    /** Twenty calls a round. */
    private static void run(Coldaisle x, int rounds) {
        for (int round = 0; round < rounds; round++) {
            x.setLoad(round % 6, 100);
            x.setSetpoint(round % 6, 2100);
            x.setEffect(round % 8, round % 6, 30);
            x.setGains(10, 20);
            x.setHall(2400, 2600);
            x.setDelay(round % 9);
            x.fail(round % 8);
            x.pass(60);
            x.expected(round % 6, 60);
            x.critical(round % 6, 60);
            x.margin(round % 6, 60);
            x.repair(round % 8);
            x.command(0);
            x.speed(0);
            x.clock();
            x.temperature(0);
            x.demand(0);
            x.errors(0);
            x.hotMinutes(0);
            x.hottest();
        }
    }
}
