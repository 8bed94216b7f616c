/** Promise 10. */
final class MessageTest {
    private static final Check check = new Check();

    public static void main(String[] args) {
        wrongAsksAreRefused();
        rowsOfMessages();
        whereThereIsNone();
        everyPid();
        theLastMessage();
        theLongestMessage();
        check.end();
    }

    private static void wrongAsksAreRefused() {
        ProcessMill mill = new ProcessMill();
        mill.start(0, 0);
        int[] pids = {0, -1, 2, Integer.MIN_VALUE, Integer.MAX_VALUE};
        for (int pid : pids) {
            check.illegalArgument("message(" + pid + ", 0, 0)", () -> mill.message(pid, 0, 0));
        }
    }

    private static void rowIs(ProcessMill mill, int k, int... due) {
        for (int i = 0; i < due.length; i++) {
            check.same("message(1, " + k + ", " + i + ")", mill.message(1, k, i), due[i]);
        }
        int[] outside = {due.length, due.length + 1, 95, -1, Integer.MIN_VALUE, Integer.MAX_VALUE};
        for (int i : outside) {
            check.same("message(1, " + k + ", " + i + ")", mill.message(1, k, i), ProcessMill.NONE);
        }
    }

    private static void rowsOfMessages() {
        ProcessMill mill = Mills.loaded(Mills.w(20, 0), Mills.w(2, 1, 8), Mills.w(7, 2, 1, 0), Mills.w(23, 0, 2),
                Mills.w(23, 0, 1), Mills.w(23, 0, 0), Mills.w(1, 2, 4), Mills.w(11, 7));
        mill.start(0, 0);
        mill.send(1, -9);
        mill.run(1);
        rowIs(mill, 0, 0, -9);
        rowIs(mill, 1, -1, 1, 8, 2, 1);
        rowIs(mill, 2, 1, 8);
        rowIs(mill, 3, 2, 1);
    }

    private static void whereThereIsNone() {
        ProcessMill mill = new ProcessMill();
        mill.start(0, 0);
        mill.send(1, 3);
        int[] places = {1, 39, 40, -1, Integer.MIN_VALUE, Integer.MAX_VALUE};
        for (int k : places) {
            check.same("message(1, " + k + ", 0)", mill.message(1, k, 0), ProcessMill.NONE);
        }
        mill.run(1);
        check.same("a message of a dead one", mill.message(1, 0, 0), ProcessMill.NONE);
    }

    private static void everyPid() {
        ProcessMill mill = new ProcessMill();
        for (int pid = 1; pid <= 60; pid++) {
            mill.start(0, 1);
            mill.send(pid, -pid);
        }
        for (int pid = 1; pid <= 60; pid++) {
            check.same("the message of pid " + pid, mill.message(pid, 0, 1), -pid);
        }
        check.illegalArgument("message(61, 0, 0)", () -> mill.message(61, 0, 0));
        check.illegalArgument("message(0, 0, 0)", () -> mill.message(0, 0, 0));
    }

    private static void theLastMessage() {
        ProcessMill mill = new ProcessMill();
        mill.start(0, 1);
        for (int k = 0; k < 40; k++) {
            check.same("message " + k + " before it comes", mill.message(1, k, 1), ProcessMill.NONE);
            mill.send(1, 100 + k);
            check.same("message " + k, mill.message(1, k, 1), 100 + k);
            check.same("behind it", mill.message(1, k + 1, 0), ProcessMill.NONE);
        }
        mill.send(1, 140);
        check.same("message 39", mill.message(1, 39, 1), 139);
        check.same("message 40, for which there was no room", mill.message(1, 40, 1), ProcessMill.NONE);
    }

    private static void theLongestMessage() {
        ProcessMill mill = Mills.loaded(Mills.w(1, 0, 6), Mills.w(7), Mills.w(7), Mills.w(7), Mills.w(7), Mills.w(7),
                Mills.w(20, 1), Mills.w(23, 1, 0), Mills.w(11, 8));
        mill.start(0, 1);
        mill.run(1);
        for (int i = 0; i < 95; i++) {
            check.same("message(1, 0, " + i + ")", mill.message(1, 0, i), mill.register(1, 0, i));
        }
        check.same("the first number", mill.message(1, 0, 0), -1);
        check.same("the last number", mill.message(1, 0, 94), 6);
        check.same("behind it", mill.message(1, 0, 95), ProcessMill.NONE);
    }
}
