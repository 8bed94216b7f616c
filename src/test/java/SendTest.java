/** Promise 4. */
final class SendTest {
    private static final Check check = new Check();

    public static void main(String[] args) {
        nobodyIsThere();
        numbersCome();
        aFullMailbox();
        theDeadGetNothing();
        itWakes();
        check.end();
    }

    private static void nobodyIsThere() {
        ProcessMill mill = new ProcessMill();
        mill.start(0, 0);
        int[] pids = {0, -1, 2, 61, Integer.MIN_VALUE, Integer.MAX_VALUE};
        for (int pid : pids) {
            check.illegalArgument("send(" + pid + ", 1)", () -> mill.send(pid, 1));
        }
        check.same("messages that came", mill.total(8), 0);
    }

    private static void numbersCome() {
        ProcessMill mill = new ProcessMill();
        mill.start(0, 0);
        int[] numbers = {0, -1, Integer.MIN_VALUE, Integer.MAX_VALUE};
        for (int k = 0; k < numbers.length; k++) {
            check.same("send", mill.send(1, numbers[k]), true);
            check.same("what came", Mills.message(mill, 1, k), "" + numbers[k]);
        }
        check.same("one that is ready stays where it is", mill.process(1, 1), 0);
        check.same("messages that came", mill.total(8), 4);
    }

    private static void aFullMailbox() {
        ProcessMill mill = new ProcessMill();
        mill.start(0, 0);
        for (int k = 0; k < 40; k++) {
            check.same("message " + k, mill.send(1, k), true);
        }
        check.same("message 40", mill.send(1, 40), false);
        check.same("messages", mill.process(1, 5), 40);
        check.same("the last one", Mills.message(mill, 1, 39), "39");
        check.same("messages that came", mill.total(8), 40);
    }

    private static void theDeadGetNothing() {
        ProcessMill mill = new ProcessMill();
        mill.start(0, 0);
        mill.send(1, 1);
        mill.run(1);
        check.same("send to a dead one", mill.send(1, 1), false);
        check.same("messages of a dead one", mill.process(1, 5), 0);
        check.same("messages that came", mill.total(8), 1);
    }

    private static void itWakes() {
        ProcessMill mill = Mills.loaded(Mills.w(27, 50));
        mill.start(0, 0);
        mill.run(1);
        check.same("it waits", mill.process(1, 0), Mills.WAITS);
        mill.send(1, 8);
        check.same("it is ready", mill.process(1, 0), Mills.READY);
        check.same("it is at", mill.process(1, 1), 50);
        check.same("ready ones", mill.total(2), 1);
    }
}
