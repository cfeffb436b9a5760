import java.lang.management.ManagementFactory;

/** What the dearest calls make: an object's 512 calls of each kind must fit into one room. */
public final class RoomTest {
    /** Elements of four bytes, of all the calls together. */
    private static final long ROOM = 7_300_000L;
    /** Together with those that load the longest text 512. */
    private static final int CALLS = 490;
    private static final String LONGEST = "file 240 7 pieces 4 1;" + "flaw 9 7;".repeat(12)
            + "break 9 0 7;".repeat(12) + "cut 1 200;".repeat(8);

    private static final com.sun.management.ThreadMXBean BEAN =
            (com.sun.management.ThreadMXBean) ManagementFactory.getThreadMXBean();
    private static long all = 0;

    interface Calls {
        void make(PieceTransfer x);
    }

    public static void main(String[] args) {
        for (int round = 0; round < 2; round++) {
            // the first round loads the classes
            all = 0;
            measureAll();
        }
        System.out.println(all + " elements for a run of each kind");
        Check.isTrue("the room", all < ROOM);
        Check.end();
    }

    private static void measureAll() {
        measure("new objects", CALLS, x -> new PieceTransfer());
        measure("runs", CALLS, x -> x.run(2));
        measure("ticksLeft", CALLS, x -> x.ticksLeft());
        measure("run and undo", CALLS / 2, x -> {
            x.run(2);
            x.undo();
        });
        measure("load", CALLS / 2, x -> {
            // "file 9 7 pieces 4 4;"
            x.append(0x66696c65, 0x20392037, 0x20706965, 0x63657320, 0x3420343b);
            x.load(20);
        });
        measure("keep, spoil and resume", CALLS / 4, x -> {
            x.run(300);
            x.keep(1);
            x.spoil(0, 0, 1);
            x.resume(0);
        });
        measure("spoil", CALLS / 2, x -> {
            if (x.count(8) == 0) {
                x.run(300);
                x.keep(1);
            }
            x.spoil(0, 239, 1);
        });
    }

    /** These calls are made on an object of their own, that holds the longest text. */
    private static void measure(String what, int times, Calls calls) {
        PieceTransfer x = Check.loaded(LONGEST);
        long id = Thread.currentThread().getId();
        long before = BEAN.getThreadAllocatedBytes(id);
        for (int k = 0; k < times; k++) {
            calls.make(x);
        }
        long made = (BEAN.getThreadAllocatedBytes(id) - before) / 4;
        Check.isTrue("the room of " + what + ", " + made + " elements", made < ROOM);
        all += made;
    }
}
