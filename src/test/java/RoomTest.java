import java.lang.management.ManagementFactory;
import java.util.function.Consumer;

/** A run of 512 calls lives in one room: no call makes objects, and a new store is a small one. */
public final class RoomTest {
    private static final int CALLS = 512;
    private static final int MAX_BYTES_OF_A_RUN = 100_000;
    private static final int MAX_BYTES_OF_A_STORE = 10_000;

    private RoomTest() {
    }

    public static void main(String[] args) {
        EbbTable x = dearest();
        stays("digest", x, EbbTable::digest);
        stays("advise", x, EbbTable::advise);
        stays("cell", x, y -> y.cell(19, 19));
        stays("peak", x, y -> y.peak(19));
        stays("fewest", x, y -> y.fewest(0, 1000));
        stays("drill", x, y -> y.drill(1));
        stays("gain", x, EbbTable::gain);
        stays("refresh", x, y -> y.refresh(5));
        stays("memberAt", x, y -> y.memberAt(0, 3, 19));
        stays("move", x, y -> y.move(0, 3, 2));
        new EbbTable();
        long before = bytes();
        EbbTable one = new EbbTable();
        long used = bytes() - before;
        Check.holds("a store of " + used + " bytes", used > 0 && used < MAX_BYTES_OF_A_STORE);
        Check.due("it is a new one", 0, one.dimensions());
        lastCall();
        Check.end("RoomTest");
    }

    /** "An object is used for at most 512 calls": the 512th answers what an earlier one did. */
    private static void lastCall() {
        EbbTable x = Stores.small();
        long due = x.digest();
        int callsTillNow = 28;
        for (int calls = callsTillNow; calls < CALLS - 2; calls += 2) {
            x.goTo(0, 3);
            x.goTo(0, 0);
        }
        Check.due("the 511th call", 5, x.facts());
        Check.due("the 512th call", due, x.digest());
    }

    /** All that the document lets a store have. */
    private static EbbTable dearest() {
        EbbTable x = new EbbTable();
        for (int d = 0; d < 4; d++) {
            x.addDimension(3);
            x.addMember(d, 0);
            x.addMember(d, 1);
            for (int leaf = 3; leaf < 24; leaf++) {
                x.addMember(d, 2);
            }
        }
        for (int fact = 0; fact < 80; fact++) {
            for (int d = 0; d < 4; d++) {
                x.goTo(d, 3 + (fact * (d + 1) + d) % 21);
            }
            x.add(fact * 100);
        }
        for (int d = 0; d < 4; d++) {
            x.goTo(d, 0);
            x.setLevel(d, 3);
        }
        x.setAxes(0, 3, 1, 3);
        for (int view = 0; view < 6; view++) {
            x.keep();
        }
        return x;
    }

    private static void stays(String name, EbbTable x, Consumer<EbbTable> call) {
        call.accept(x);
        long before = bytes();
        for (int i = 0; i < CALLS; i++) {
            call.accept(x);
        }
        long used = bytes() - before;
        Check.holds(name + " makes " + used + " bytes in " + CALLS + " calls", used < MAX_BYTES_OF_A_RUN);
    }

    private static long bytes() {
        return ((com.sun.management.ThreadMXBean) ManagementFactory.getThreadMXBean())
                .getCurrentThreadAllocatedBytes();
    }
}
