import java.lang.management.ManagementFactory;

/** The room of a run: a new object is small, and its calls make nothing, not even the dearest. */
public final class RoomTest {
    private static final Due DUE = new Due("RoomTest");

    public static void main(String[] args) {
        com.sun.management.ThreadMXBean threads =
                (com.sun.management.ThreadMXBean) ManagementFactory.getThreadMXBean();
        long id = Thread.currentThread().getId();
        CreasedPaper x = new CreasedPaper(40);
        callAll(x);
        long before = threads.getThreadAllocatedBytes(id);
        CreasedPaper y = new CreasedPaper(40);
        long made = threads.getThreadAllocatedBytes(id);
        for (int i = 0; i < 10; i++) {
            callAll(y);
        }
        long after = threads.getThreadAllocatedBytes(id);
        DUE.is("a new object takes some kilobytes: " + (made - before), made - before < 40000, true);
        DUE.is("calls make nothing: " + (after - made), after - made < 1000, true);
        DUE.end();
    }

    private static int callAll(CreasedPaper x) {
        int sum = x.rules(100, 10, 100, 40) ? 1 : 0;
        for (int line = 1; line < 6; line++) {
            sum += x.fold(line, true) + x.fold(line, false);
        }
        sum += x.hold(1000) + x.open() + x.cell(3, 1) + x.layers(3) + x.at(3, 0) + x.crease(3, 1);
        // again 50(again 50(open;))
        sum += x.feed(0x61676169, 0x6e203530, 0x28616761, 0x696e2035, 0x30286f70);
        sum += x.feed(0x656e3b29, 0x29202020, 0x20202020, 0x20202020, 0x20202020) + x.end(x.about(8));
        sum += x.hands() + x.fault(0) + x.fault(2);
        sum += x.sheet(1, 0, 50, 60, -60) + x.torque(0, 3) + x.rests(0, 0, -1) + x.stays(0, 0, 59);
        sum += x.snap(0, -60, 0, 2000, 0) + x.ways(8, 0, -1, 0) + x.ways(8, 0, 1391, 7);
        sum += x.see(1, 1) + (x.look(0) ? 1 : 0) + x.orders(12, 3, -1, 0) + x.next(12, 3);
        return sum + x.image() + x.back() + x.about(3);
    }
}
