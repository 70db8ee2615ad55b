import java.lang.management.ManagementFactory;
import java.util.function.ToIntFunction;

/** 512 calls on one object: the last one answers as the first one did, and the calls make next to no objects. */
public final class RoomTest {
    private static final Due DUE = new Due("RoomTest");
    private static final int CALLS = 512;
    private static final int CALLS_OF_BUSY = 30;
    private static final long MOST_BYTES = 500_000;

    public static void main(String[] args) {
        run("safeSpeed()", 1, x -> x.safeSpeed(3, 3));
        run("wouldHurt()", 1, x -> x.wouldHurt(3, 3, 1));
        run("knownIn()", 1, x -> x.knownIn(3));
        run("quietIn()", 1, PlugPins::quietIn);
        run("fault()", 1, PlugPins::fault);
        run("send() that is refused", 1, x -> x.send(0, 2));
        run("set()", 1, x -> x.set(0, 1));
        run("save()", 1, x -> x.save(1));
        run("restore()", 1, x -> x.restore(0));
        run("pass() and undo()", 2, x -> x.pass(99) + x.undo());
        run("a text and undo()", 4, RoomTest::textAndUndo);
        DUE.end();
    }

    private static int textAndUndo(PlugPins x) {
        x.wipe();
        return x.put(Due.number("t9;t9;t9")) + x.carryOut() + x.undo();
    }

    private static void run(String name, int callsAtOnce, ToIntFunction<PlugPins> call) {
        bytesOf(name, call, 1);
        long bytes = bytesOf(name, call, (CALLS - CALLS_OF_BUSY) / callsAtOnce);
        DUE.is(name + " makes " + bytes + " bytes", bytes > MOST_BYTES ? 1 : 0, 0);
    }

    /** What a new object and so many calls, those by which it is made busy among them, take from the heap. */
    private static long bytesOf(String name, ToIntFunction<PlugPins> call, int times) {
        long before = allocated();
        PlugPins x = Edges.busy();
        int first = call.applyAsInt(x);
        int last = first;
        for (int i = 1; i < times; i++) {
            last = call.applyAsInt(x);
        }
        long bytes = allocated() - before;
        DUE.is(name + ", the last one", last, first);
        return bytes;
    }

    private static long allocated() {
        if (ManagementFactory.getThreadMXBean() instanceof com.sun.management.ThreadMXBean bean) {
            return bean.getCurrentThreadAllocatedBytes();
        }
        return 0;
    }
}
