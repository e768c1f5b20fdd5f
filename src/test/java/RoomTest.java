import java.lang.management.ManagementFactory;
import java.util.function.Consumer;

/**
 * All calls of a run live in one room of 600,000 objects and 7.3 million fields: as many calls of the dearest
 * kinds as a full store has left stay in their part of it, and a new store is a small one.
 */
public final class RoomTest {
    private static final int CALLS = 512;
    private static final int CALLS_OF_A_KIND = 250;
    private static final int OBJECTS = 600_000;
    private static final int BYTES_OF_THE_SMALLEST_OBJECT = 16;
    private static final int MAX_BYTES_OF_THESE = OBJECTS / CALLS * CALLS_OF_A_KIND * BYTES_OF_THE_SMALLEST_OBJECT;
    private static final int MAX_BYTES_OF_A_STORE = 20_000;

    private RoomTest() {
    }

    public static void main(String[] args) {
        stays("digest", EbbTable::digest);
        stays("advise", EbbTable::advise);
        stays("cell", x -> x.cell(20, 20));
        stays("peak", x -> x.peak(20));
        stays("fewest", x -> x.fewest(0, 1000));
        stays("drill", x -> x.drill(1));
        stays("gain", EbbTable::gain);
        stays("refresh", x -> x.refresh(5));
        stays("memberAt", x -> x.memberAt(0, 3, 20));
        stays("move", x -> x.move(0, 3, 2));
        new EbbTable();
        long before = bytes();
        EbbTable one = new EbbTable();
        long used = bytes() - before;
        Check.holds("a store of " + used + " bytes", used > 0 && used < MAX_BYTES_OF_A_STORE);
        Check.due("it is a new one", 0, one.dimensions());
        lastCall();
        Check.end("RoomTest");
    }

    /** "An object is used for at most 512 calls": the 512th answers what an earlier one did. */
    private static void lastCall() {
        EbbTable x = Stores.small();
        long due = x.digest();
        int callsTillNow = 28;
        for (int calls = callsTillNow; calls < CALLS - 2; calls += 2) {
            x.goTo(0, 3);
            x.goTo(0, 0);
        }
        Check.due("the 511th call", 5, x.facts());
        Check.due("the 512th call", due, x.digest());
    }

    /** Each kind has a full store of its own, for this takes half of the 512 calls to make. */
    private static void stays(String name, Consumer<EbbTable> call) {
        EbbTable x = Stores.full();
        Stores.goTo(x, 0, 0, 0, 0);
        call.accept(x);
        long before = bytes();
        for (int i = 0; i < CALLS_OF_A_KIND; i++) {
            call.accept(x);
        }
        long used = bytes() - before;
        String what = name + " makes " + used + " bytes in " + CALLS_OF_A_KIND + " calls";
        Check.holds(what, used < MAX_BYTES_OF_THESE);
    }

    private static long bytes() {
        return ((com.sun.management.ThreadMXBean) ManagementFactory.getThreadMXBean())
                .getCurrentThreadAllocatedBytes();
    }
}
