/** Promise 4. */
final class SendTest {
    private static final Check check = new Check();

    public static void main(String[] args) {
        nobodyIsThere();
        numbersCome();
        aFullMailbox();
        theDeadGetNothing();
        itWakes();
        theLastPid();
        aPlaceThatIsFreeAgain();
        aFullMailboxWakesNobody();
        check.end();
    }

    private static void nobodyIsThere() {
        ProcessMill mill = new ProcessMill();
        mill.start(0, 0);
        int[] pids = {0, -1, 2, 61, Integer.MIN_VALUE, Integer.MAX_VALUE};
        for (int pid : pids) {
            check.illegalArgument("send(" + pid + ", 1)", () -> mill.send(pid, 1));
        }
        check.same("messages that came", mill.total(8), 0);
    }

    private static void numbersCome() {
        ProcessMill mill = new ProcessMill();
        mill.start(0, 0);
        int[] numbers = {0, -1, Integer.MIN_VALUE, Integer.MAX_VALUE};
        for (int k = 0; k < numbers.length; k++) {
            check.same("send", mill.send(1, numbers[k]), true);
            check.same("what came", Mills.message(mill, 1, k), "" + numbers[k]);
        }
        check.same("one that is ready stays where it is", mill.process(1, 1), 0);
        check.same("messages that came", mill.total(8), 4);
    }

    private static void aFullMailbox() {
        ProcessMill mill = new ProcessMill();
        mill.start(0, 0);
        for (int k = 0; k < 40; k++) {
            check.same("message " + k, mill.send(1, k), true);
        }
        check.same("message 40", mill.send(1, 40), false);
        check.same("messages", mill.process(1, 5), 40);
        check.same("the last one", Mills.message(mill, 1, 39), "39");
        check.same("messages that came", mill.total(8), 40);
    }

    private static void theDeadGetNothing() {
        ProcessMill mill = new ProcessMill();
        mill.start(0, 0);
        mill.send(1, 1);
        mill.run(1);
        check.same("send to a dead one", mill.send(1, 1), false);
        check.same("messages of a dead one", mill.process(1, 5), 0);
        check.same("messages that came", mill.total(8), 1);
    }

    private static void itWakes() {
        ProcessMill mill = Mills.loaded(Mills.w(27, 50));
        mill.start(0, 0);
        mill.run(1);
        check.same("it waits", mill.process(1, 0), Mills.WAITS);
        mill.send(1, 8);
        check.same("it is ready", mill.process(1, 0), Mills.READY);
        check.same("it is at", mill.process(1, 1), 50);
        check.same("ready ones", mill.total(2), 1);
    }

    private static void theLastPid() {
        ProcessMill mill = new ProcessMill();
        for (int pid = 1; pid <= 60; pid++) {
            mill.start(0, 1);
        }
        check.same("send to pid 1", mill.send(1, 5), true);
        check.same("send to pid 60", mill.send(60, 6), true);
        check.illegalArgument("send to pid 61", () -> mill.send(61, 7));
        check.illegalArgument("send to pid 0", () -> mill.send(0, 7));
        check.same("messages that came", mill.total(8), 2);
    }

    private static void aPlaceThatIsFreeAgain() {
        ProcessMill mill = Mills.loaded(Mills.w(25), Mills.w(26), Mills.w(27, 3), Mills.w(11, 3));
        mill.start(0, 0);
        for (int k = 0; k < 41; k++) {
            mill.send(1, k);
        }
        mill.run(1);
        check.same("messages when one is gone", mill.process(1, 5), 39);
        check.same("there is room for one", mill.send(1, 100), true);
        check.same("and no more", mill.send(1, 101), false);
        check.same("the first", Mills.message(mill, 1, 0), "1");
        check.same("the last", Mills.message(mill, 1, 39), "100");
        check.same("messages that came", mill.total(8), 41);
    }

    private static void aFullMailboxWakesNobody() {
        ProcessMill mill = new ProcessMill();
        for (int k = 0; k < 10; k++) {
            mill.word(k, 26, 0, 0, 0);
        }
        mill.word(10, 24, 12, 1, 0);
        mill.word(11, 11, 0, 0, 0);
        mill.word(12, 27, 20, 0, 0);
        mill.start(0, 0);
        for (int k = 0; k < 40; k++) {
            mill.send(1, k);
        }
        mill.run(60);
        check.same("the pointer is behind all 40", mill.process(1, 6), 40);
        check.same("it waits", mill.process(1, 0), Mills.WAITS);
        check.same("a send with no room", mill.send(1, 40), false);
        check.same("it still waits", mill.process(1, 0), Mills.WAITS);
        check.same("where it was", mill.process(1, 1), 13);
        check.same("the pointer stays", mill.process(1, 6), 40);
    }
}
