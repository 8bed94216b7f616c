/** Promise 6, and the waiting of word 28. */
final class PassTest {
    private static final Check check = new Check();

    public static void main(String[] args) {
        wrongNumbersAreRefused();
        timePasses();
        itGoesOnWhenItsTimeHasCome();
        theOrderIsByTimeThenByPids();
        aMessageComesFirst();
        belowOneItDoesNotWait();
        thoseWithoutTimeStay();
        theLongestTime();
        whatIsNoNumberIsBad();
        oneUnitIsWaitedFor();
        theMostUnitsOfACall();
        noUnits();
        theTimeBeginsWithTheWait();
        priorityIsNotTheOrder();
        aFullMailboxAndTime();
        theDeadWaitNoMore();
        withAMessageItDoesNotWait();
        check.end();
    }

    /** Waits for as many units as its first message tells; behind that it prints its pid and ends. */
    private static ProcessMill waiters(int... units) {
        ProcessMill mill = Mills.loaded(Mills.w(24, 9, 1), Mills.w(25), Mills.w(28, 20, 1, 30));
        Mills.load(mill, 20, Mills.w(2, 0, 50), Mills.w(36, 0), Mills.w(0));
        Mills.load(mill, 30, Mills.w(20, 0), Mills.w(36, 0), Mills.w(0));
        for (int k = 0; k < units.length; k++) {
            int pid = mill.start(0, 1);
            mill.send(pid, units[k]);
        }
        mill.run(60);
        return mill;
    }

    private static void wrongNumbersAreRefused() {
        ProcessMill mill = waiters(1);
        int[] numbers = {-1, 10001, Integer.MIN_VALUE, Integer.MAX_VALUE};
        for (int n : numbers) {
            check.illegalArgument("pass(" + n + ")", () -> mill.pass(n));
        }
        check.same("time after refused calls", mill.total(5), 0);
        check.same("it still waits", mill.process(1, 0), Mills.WAITS);
    }

    private static void timePasses() {
        ProcessMill mill = new ProcessMill();
        check.same("pass(0)", mill.pass(0), 0);
        check.same("time", mill.total(5), 0);
        mill.pass(10000);
        mill.pass(1);
        check.same("time", mill.total(5), 10001);
    }

    private static void itGoesOnWhenItsTimeHasCome() {
        ProcessMill mill = waiters(5);
        check.same("pass(4)", mill.pass(4), 0);
        check.same("it waits", mill.process(1, 0), Mills.WAITS);
        check.same("it is behind word 28", mill.process(1, 1), 3);
        check.same("pass(1)", mill.pass(1), 1);
        check.same("it is ready", mill.process(1, 0), Mills.READY);
        check.same("it is at", mill.process(1, 1), 30);
        check.same("pass(10)", mill.pass(10), 0);
    }

    private static void theOrderIsByTimeThenByPids() {
        ProcessMill mill = waiters(9, 3, 7, 3, 9, 8);
        check.same("pass(8)", mill.pass(8), 4);
        mill.run(60);
        check.same("the order", Mills.printed(mill), "p2 p4 p3 p6");
        check.same("pass(8) again", mill.pass(8), 2);
        mill.run(60);
        check.same("the order", Mills.printed(mill), "p2 p4 p3 p6 p1 p5");
    }

    private static void aMessageComesFirst() {
        ProcessMill mill = waiters(5, 5);
        mill.pass(4);
        mill.send(1, 77);
        check.same("it is at a", mill.process(1, 1), 20);
        check.same("pass(10)", mill.pass(10), 1);
        check.same("it is still at a", mill.process(1, 1), 20);
        mill.run(60);
        check.same("printed", Mills.printed(mill), "a50 p2");
    }

    private static void belowOneItDoesNotWait() {
        int[] units = {0, -1, Integer.MIN_VALUE};
        for (int n : units) {
            ProcessMill mill = Mills.loaded(Mills.w(1, 1, n), Mills.w(26), Mills.w(28, 20, 1, 30));
            mill.word(20, 11, 20, 0, 0);
            mill.word(30, 11, 30, 0, 0);
            mill.start(0, 1);
            mill.send(1, 1);
            mill.run(1);
            check.same("with " + n + " units it goes on to c", mill.process(1, 1), 30);
            check.same("with " + n + " units it goes on in the same slice", mill.process(1, 10), 12);
            check.same("with " + n + " units the pointer is at the first", mill.process(1, 6), 0);
        }
        ProcessMill late = Mills.loaded(Mills.w(1, 1, 6), Mills.w(26), Mills.w(28, 20, 1, 30));
        late.start(0, 1);
        late.send(1, 1);
        late.run(1);
        check.same("while it waits the pointer is behind the message", late.process(1, 6), 1);
        late.pass(6);
        check.same("when its time has come the pointer is at the first", late.process(1, 6), 0);
    }

    private static void thoseWithoutTimeStay() {
        ProcessMill mill = Mills.loaded(Mills.w(27, 5));
        mill.start(0, 1);
        mill.run(1);
        check.same("pass(10000)", mill.pass(10000), 0);
        check.same("it waits", mill.process(1, 0), Mills.WAITS);
    }

    private static void theLongestTime() {
        ProcessMill mill = Mills.loaded(Mills.w(1, 1, Integer.MAX_VALUE), Mills.w(28, 20, 1, 30));
        mill.pass(10000);
        mill.start(0, 1);
        mill.run(1);
        check.same("pass(10000)", mill.pass(10000), 0);
        check.same("it waits", mill.process(1, 0), Mills.WAITS);
    }

    private static void whatIsNoNumberIsBad() {
        ProcessMill mill = Mills.loaded(Mills.w(2, 1, 9), Mills.w(28, 20, 1, 30));
        mill.word(20, 11, 20, 0, 0);
        mill.start(0, 1);
        mill.start(0, 1);
        mill.send(2, 1);
        mill.run(2);
        check.same("the reason", Mills.reason(mill, 1), "a4");
        check.same("with a message no units are wanted", mill.process(2, 1), 20);
        check.same("it is ready", mill.process(2, 0), Mills.READY);
    }

    private static void oneUnitIsWaitedFor() {
        ProcessMill mill = waiters(1);
        check.same("with 1 unit it waits", mill.process(1, 0), Mills.WAITS);
        check.same("pass(0)", mill.pass(0), 0);
        check.same("it still waits", mill.process(1, 0), Mills.WAITS);
        check.same("pass(1)", mill.pass(1), 1);
        check.same("it goes on to c", mill.process(1, 1), 30);
    }

    private static void theMostUnitsOfACall() {
        ProcessMill mill = waiters(10000, 10001, 9999);
        check.same("pass(10000)", mill.pass(10000), 2);
        check.same("with 10001 units it still waits", mill.process(2, 0), Mills.WAITS);
        check.same("pass(1)", mill.pass(1), 1);
        check.same("time", mill.total(5), 10001);
        mill.run(60);
        check.same("the order", Mills.printed(mill), "p3 p1 p2");
    }

    private static void noUnits() {
        ProcessMill mill = waiters(1, 2);
        for (int k = 0; k < 5; k++) {
            check.same("pass(0)", mill.pass(0), 0);
        }
        check.same("time", mill.total(5), 0);
        check.same("both wait", mill.total(2), 0);
    }

    /** Pid 2 begins to wait 4 units behind pid 1; both have the same end, pid 3 one that is earlier. */
    private static void theTimeBeginsWithTheWait() {
        ProcessMill mill = waiters();
        int[][] pausesAndUnits = {{7, 10}, {4, 6}, {2, 3}};
        for (int[] row : pausesAndUnits) {
            mill.pass(row[0]);
            int pid = mill.start(0, 1);
            mill.send(pid, row[1]);
            mill.run(1);
        }
        check.same("pass(2)", mill.pass(2), 0);
        check.same("pass(1)", mill.pass(1), 1);
        check.same("the one that waited least", mill.process(3, 0), Mills.READY);
        check.same("pass(1)", mill.pass(1), 2);
        mill.run(60);
        check.same("the order", Mills.printed(mill), "p3 p1 p2");
        check.same("time", mill.total(5), 17);
    }

    private static void priorityIsNotTheOrder() {
        ProcessMill mill = waiters();
        int[][] unitsAndPriorities = {{5, 2}, {4, 1}, {4, 2}, {5, 1}, {3, 2}};
        for (int[] row : unitsAndPriorities) {
            int pid = mill.start(0, row[1]);
            mill.send(pid, row[0]);
        }
        mill.run(60);
        check.same("pass(5)", mill.pass(5), 5);
        check.same("slices before", mill.total(3), 5);
        mill.run(2);
        check.same("of priority 1", Mills.printed(mill), "p2 p4");
        mill.run(3);
        check.same("of priority 2", Mills.printed(mill), "p2 p4 p5 p3 p1");
    }

    private static void aFullMailboxAndTime() {
        ProcessMill mill = new ProcessMill();
        mill.word(0, 1, 1, 5, 0);
        for (int k = 1; k < 12; k++) {
            mill.word(k, 26, 0, 0, 0);
        }
        mill.word(12, 24, 14, 2, 0);
        mill.word(13, 11, 1, 0, 0);
        mill.word(14, 28, 20, 1, 30);
        mill.start(0, 1);
        for (int k = 0; k < 40; k++) {
            mill.send(1, k);
        }
        mill.run(60);
        check.same("the pointer is behind all 40", mill.process(1, 6), 40);
        check.same("there is no room", mill.send(1, 40), false);
        check.same("it waits", mill.process(1, 0), Mills.WAITS);
        check.same("pass(5)", mill.pass(5), 1);
        check.same("it goes on to c", mill.process(1, 1), 30);
        check.same("the pointer is at the first", mill.process(1, 6), 0);
        check.same("no message is gone", mill.process(1, 5), 40);
    }

    private static void theDeadWaitNoMore() {
        ProcessMill mill = waiters(5, 5);
        Mills.load(mill, 50, Mills.w(35, 1, 9), Mills.w(2, 2, 1), Mills.w(32, 1, 2), Mills.w(0));
        Mills.load(mill, 60, Mills.w(34, 9), Mills.w(1, 1, 5), Mills.w(28, 20, 1, 30));
        mill.start(60, 1);
        mill.run(1);
        mill.start(50, 1);
        mill.run(1);
        check.same("it is dead", mill.process(3, 0), Mills.DEAD);
        check.same("pass(5)", mill.pass(5), 2);
        check.same("it stays dead", mill.process(3, 0), Mills.DEAD);
        check.same("it is where it waited", mill.process(3, 1), 63);
    }

    private static void withAMessageItDoesNotWait() {
        int[] units = {Integer.MIN_VALUE, -1, 0, 1, Integer.MAX_VALUE};
        for (int n : units) {
            ProcessMill mill = Mills.loaded(Mills.w(1, 1, n), Mills.w(26), Mills.w(28, 20, 1, 30));
            mill.word(20, 11, 20, 0, 0);
            mill.start(0, 1);
            mill.send(1, 5);
            mill.send(1, 6);
            mill.run(1);
            check.same("with " + n + " units and a message on to a", mill.process(1, 1), 20);
            check.same("with " + n + " units and a message it is ready", mill.process(1, 0), Mills.READY);
            check.same("with " + n + " units and a message the pointer stays", mill.process(1, 6), 1);
            check.same("pass(10000)", mill.pass(10000), 0);
        }
    }
}
