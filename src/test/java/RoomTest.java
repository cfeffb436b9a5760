import java.lang.management.ManagementFactory;

/** What is made by the dearest calls of a run: all of it together must fit into one room. */
public final class RoomTest {
    /** Elements of four bytes, of all the calls together. */
    private static final long ROOM = 7_300_000L;
    private static final int CALLS = 512;
    private static final String LONGEST = "file 240 7 pieces 4 1;" + "flaw 9 7;".repeat(12)
            + "break 9 0 7;".repeat(12) + "cut 1 200;".repeat(8);

    public static void main(String[] args) {
        measure(1);
        long made = measure(CALLS) / 4;
        System.out.println(made + " elements for " + CALLS + " calls of each kind");
        Check.isTrue("the room", made < ROOM);
        Check.end();
    }

    private static long measure(int calls) {
        com.sun.management.ThreadMXBean bean =
                (com.sun.management.ThreadMXBean) ManagementFactory.getThreadMXBean();
        long id = Thread.currentThread().getId();
        PieceTransfer x = Check.loaded(LONGEST);
        long before = bean.getThreadAllocatedBytes(id);
        for (int k = 0; k < calls; k++) {
            new PieceTransfer();
        }
        for (int k = 0; k < calls; k++) {
            x.run(2);
            x.ticksLeft();
            x.undo();
        }
        x.run(300);
        x.keep(1);
        for (int k = 0; k < calls; k++) {
            x.spoil(0, 0, 1);
        }
        for (int k = 0; k < calls; k++) {
            x.resume(0);
            x.undo();
        }
        for (int k = 0; k < calls; k++) {
            appendHeader(x);
            x.load(20);
        }
        long after = bean.getThreadAllocatedBytes(id);
        return after - before;
    }

    /** "file 9 7 pieces 4 4;" */
    private static void appendHeader(PieceTransfer x) {
        x.append(0x66696c65, 0x20392037, 0x20706965, 0x63657320, 0x3420343b);
    }
}
