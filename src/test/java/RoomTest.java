import com.sun.management.ThreadMXBean;
import java.lang.management.ManagementFactory;

/** All calls of one run live in one room, so the dearest runs of 512 calls must make little: the bounds are bytes. */
public final class RoomTest {
    private static final ThreadMXBean THREADS = (ThreadMXBean) ManagementFactory.getThreadMXBean();

    public static void main(String[] args) {
        // The first round also makes what the machine itself needs once.
        for (int round = 0; round < 2; round++) {
            within("a new object", round, 20_000, PinKindChecks::new);
            within("160 pins, 20 rules and 51 runs of 3360 remarks", round, 500_000, RoomTest::mostRemarks);
            within("500 runs of few remarks", round, 100_000, RoomTest::manyRuns);
            within("remarks that close and open in turn", round, 200_000, RoomTest::closeAndOpen);
            within("511 clears", round, 50_000, RoomTest::clears);
            within("as many things as may be, three times", round, 200_000, RoomTest::clearsOfFullOnes);
            within("wrong words", round, 50_000, RoomTest::wrongRules);
            within("rules of 160 letters", round, 50_000, RoomTest::longRules);
            within("waivers that come and go", round, 50_000, RoomTest::waivers);
        }
        Due.end();
    }

    private static void within(String what, int round, long bytes, Runnable calls) {
        long before = THREADS.getCurrentThreadAllocatedBytes();
        calls.run();
        long made = THREADS.getCurrentThreadAllocatedBytes() - before;
        if (round > 0 && made > bytes) {
            Due.tell(what + " made " + made + " bytes, at most " + bytes + " are due");
        }
    }

    private static void addLoosePins(PinKindChecks x, int pins) {
        x.part(0);
        for (int pin = 0; pin < pins; pin++) {
            x.pin(0, PinKindChecks.NONE, 0);
        }
    }

    private static void tell(PinKindChecks x, String text) {
        for (int i = 0; i < text.length(); i++) {
            x.unit(text.charAt(i));
        }
        x.rule();
    }

    private static void mostRemarks() {
        PinKindChecks x = new PinKindChecks();
        addLoosePins(x, 160);
        for (int rule = 0; rule < 20; rule++) {
            tell(x, "pin warn 1 = 1");
        }
        for (int i = 0; i < 51; i++) {
            x.run();
        }
    }

    private static void manyRuns() {
        PinKindChecks x = new PinKindChecks();
        addLoosePins(x, 10);
        for (int i = 0; i < 500; i++) {
            x.run();
        }
    }

    private static void closeAndOpen() {
        PinKindChecks x = new PinKindChecks();
        addLoosePins(x, 160);
        for (int i = 0; i < 175; i++) {
            x.off(0, i % 2 == 0);
            x.run();
        }
    }

    private static void clears() {
        PinKindChecks x = new PinKindChecks();
        x.run();
        for (int i = 0; i < 511; i++) {
            x.clear();
        }
    }

    private static void clearsOfFullOnes() {
        PinKindChecks x = new PinKindChecks();
        for (int i = 0; i < 3; i++) {
            addLoosePins(x, 90);
            for (int thing = 0; thing < 39; thing++) {
                x.part(0);
                x.net(0, 0);
            }
            x.clear();
        }
    }

    private static void wrongRules() {
        PinKindChecks x = new PinKindChecks();
        for (int i = 0; i < 36; i++) {
            tell(x, "part warn ( 1");
        }
    }

    private static void longRules() {
        PinKindChecks x = new PinKindChecks();
        StringBuilder text = new StringBuilder("net warn 1 = 1");
        for (int i = 0; i < 36; i++) {
            text.append(" + 1");
        }
        for (int i = 0; i < 3; i++) {
            tell(x, text.toString());
        }
    }

    private static void waivers() {
        PinKindChecks x = new PinKindChecks();
        addLoosePins(x, 60);
        for (int i = 0; i < 450; i++) {
            x.waive(0, 2, i % 60, i % 7 - 1);
        }
    }
}
