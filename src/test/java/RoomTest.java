import com.sun.management.ThreadMXBean;
import java.lang.management.ManagementFactory;

/** All calls of one run live in one room, so the dearest runs must make little: the bounds are bytes. */
public final class RoomTest {
    private static final ThreadMXBean THREADS = (ThreadMXBean) ManagementFactory.getThreadMXBean();

    public static void main(String[] args) {
        // The first round also makes what the machine itself needs once.
        for (int round = 0; round < 2; round++) {
            within("a new object", round, 10_000, PinKindChecks::new);
            PinKindChecks full = new PinKindChecks();
            within("160 pins and 20 rules", round, 60_000, () -> fill(full));
            within("the first runs of 3360 remarks", round, 300_000, () -> run(full, 2));
            within("later runs", round, 1_000, () -> run(full, 40));
            within("all closed", round, 150_000, () -> close(full));
            within("runs that close and open in turn", round, 1_000, () -> closeAndOpen(full, 10));
            PinKindChecks other = new PinKindChecks();
            within("511 clears", round, 1_000, () -> clear(other, 511));
            within("wrong words", round, 1_000, () -> wrongRules(other, 30));
            within("waivers that come and go", round, 1_000, () -> waive(full, 200));
        }
        Due.end();
    }

    private static void within(String what, int round, long bytes, Runnable calls) {
        long before = THREADS.getCurrentThreadAllocatedBytes();
        calls.run();
        long made = THREADS.getCurrentThreadAllocatedBytes() - before;
        if (round > 0 && made > bytes) {
            Due.tell(what + " made " + made + " bytes, at most " + bytes + " are due");
        }
    }

    private static void fill(PinKindChecks x) {
        x.part(0);
        for (int pin = 0; pin < 160; pin++) {
            x.pin(0, PinKindChecks.NONE, 0);
        }
        for (int rule = 0; rule < 20; rule++) {
            tell(x, "pin warn 1 = 1");
        }
    }

    private static void tell(PinKindChecks x, String text) {
        for (int i = 0; i < text.length(); i++) {
            x.unit(text.charAt(i));
        }
        x.rule();
    }

    private static void run(PinKindChecks x, int times) {
        for (int i = 0; i < times; i++) {
            x.run();
        }
    }

    private static void turn(PinKindChecks x, boolean off) {
        for (int rule = 0; rule < 27; rule++) {
            x.off(rule, off);
        }
        x.run();
    }

    private static void close(PinKindChecks x) {
        turn(x, true);
        turn(x, false);
    }

    private static void closeAndOpen(PinKindChecks x, int times) {
        for (int i = 0; i < times; i++) {
            close(x);
        }
    }

    private static void clear(PinKindChecks x, int times) {
        for (int i = 0; i < times; i++) {
            x.clear();
        }
    }

    private static void wrongRules(PinKindChecks x, int times) {
        for (int i = 0; i < times; i++) {
            tell(x, "part warn ( 1");
        }
    }

    private static void waive(PinKindChecks x, int times) {
        for (int i = 0; i < times; i++) {
            x.waive(0, 2, i % 60, i % 3 - 1);
        }
    }
}
