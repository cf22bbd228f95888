import java.lang.management.ManagementFactory;

/** What calls make is counted: an object makes its rows once, and no call makes more. */
public final class RoomTest {
    private static final int CALLS = 500;

    public static void main(String[] args) {
        com.sun.management.ThreadMXBean threads = (com.sun.management.ThreadMXBean) ManagementFactory.getThreadMXBean();
        long self = Thread.currentThread().getId();
        run(new UnpatternedRows());
        long start = threads.getThreadAllocatedBytes(self);
        UnpatternedRows x = new UnpatternedRows();
        long made = threads.getThreadAllocatedBytes(self);
        run(x);
        long end = threads.getThreadAllocatedBytes(self);
        System.out.println("the object: " + (made - start) + " bytes; its calls: " + (end - made));
        if (made - start > 400000 || end - made > 2000) {
            System.out.println("too much");
            System.exit(1);
        }
    }

    /** Dear calls, with classes that change all the time. */
    private static void run(UnpatternedRows x) {
        int length = 0;
        for (int call = 0; call < CALLS / 20; call++) {
            x.feed(0x31323320, 0x2c333432, 0x31202020, 0x20202020, 0x20202020);
            x.tell(call % 4, call % 2 == 0 ? 3 : 0);
            x.feed(0x33353134, 0x32202020, 0x20202020, 0x20202020, 0x20202020);
            x.under(1, 5);
            x.feed(0x746f7461, 0x6c20696e, 0x76657273, 0x696f6e73, 0x20202020);
            x.ask(call % 4, 8, 16);
            x.feed(0x32315b31, 0x2c315d20, 0x20202020, 0x20202020, 0x20202020);
            length += x.inflate(7);
            x.make(2, 4, 0, 1);
            x.make(3, 3, 2, 1);
            length += x.many(call % 4, 8) + x.simples(call % 4, 8) + x.rank(call % 4, 87654321) + x.rule(call % 4, 3, 3);
            length += x.parts(0, 1, false) + x.degree(2) + (int) x.recurrence(3, -1, false) + x.of(56781234, 4);
            length += x.occurrences(1234, 12345678) + x.undo();
        }
        if (length == 0) {
            System.out.println("nothing was answered");
        }
    }
}
