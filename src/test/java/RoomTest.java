import java.lang.management.ManagementFactory;

/** What the calls of one object make must fit one room: rows are made once and used again. */
final class RoomTest {
    /** 7.3 million fields and elements of four bytes, with much to spare. */
    private static final long ROOM = 4_000_000;
    private static final int FILLING_RUNS = 60;
    private static final int LATER_RUNS = 400;
    private static final Check check = new Check();

    public static void main(String[] args) {
        makeBusy(new ProcessMill());
        long before = allocated();
        ProcessMill mill = new ProcessMill();
        check.same("a new object is small", allocated() - before < 20_000, true);
        makeBusy(mill);
        check.same("processes", mill.total(0), 60);
        check.same("messages of the third", mill.process(3, 5) >= 39, true);
        check.same("messages of the last", mill.process(60, 5) >= 39, true);
        long filled = allocated();
        check.same("sixty processes with full mailboxes fit", filled - before < ROOM, true);
        int came = mill.total(8);
        for (int k = 0; k < LATER_RUNS; k++) {
            mill.run(60);
        }
        long done = allocated();
        check.same("slices were done", mill.total(3) >= 60 * LATER_RUNS, true);
        check.same("messages came", mill.total(8) - came > 10_000, true);
        check.same("slices make nothing new", done - filled < 100_000, true);
        check.end();
    }

    private static long allocated() {
        var threads = (com.sun.management.ThreadMXBean) ManagementFactory.getThreadMXBean();
        return threads.getThreadAllocatedBytes(Thread.currentThread().getId());
    }

    /**
     * Pid 1 makes pid 2, which dies, then gives its pid to 58 more. These trap, and go on to catch, to build terms,
     * to send exits to themselves, to watch the dead one and to drop messages, of which fewer go than come.
     */
    private static void makeBusy(ProcessMill mill) {
        Mills.load(mill, 0, Mills.w(21, 1, 100), Mills.w(27, 2), Mills.w(17, 5), Mills.w(21, 2, 20, 1), Mills.w(11, 3),
                Mills.w(11, 5));
        Mills.load(mill, 20, Mills.w(33, 1), Mills.w(20, 0), Mills.w(17, 21), Mills.w(7, 3, 0, 0), Mills.w(7, 3, 3, 3),
                Mills.w(32, 0, 3), Mills.w(31, 4, 1), Mills.w(25), Mills.w(36, 3), Mills.w(24, 22, 5), Mills.w(11, 21));
        mill.start(0, 0);
        mill.run(2);
        mill.send(1, 1);
        for (int k = 0; k < FILLING_RUNS; k++) {
            mill.run(60);
        }
    }
}
