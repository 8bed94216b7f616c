/** Promise 10. */
final class MessageTest {
    private static final Check check = new Check();

    public static void main(String[] args) {
        wrongAsksAreRefused();
        rowsOfMessages();
        whereThereIsNone();
        check.end();
    }

    private static void wrongAsksAreRefused() {
        ProcessMill mill = new ProcessMill();
        mill.start(0, 0);
        int[] pids = {0, -1, 2, Integer.MIN_VALUE, Integer.MAX_VALUE};
        for (int pid : pids) {
            check.illegalArgument("message(" + pid + ", 0, 0)", () -> mill.message(pid, 0, 0));
        }
    }

    private static void rowIs(ProcessMill mill, int k, int... due) {
        for (int i = 0; i < due.length; i++) {
            check.same("message(1, " + k + ", " + i + ")", mill.message(1, k, i), due[i]);
        }
        int[] outside = {due.length, due.length + 1, 95, -1, Integer.MIN_VALUE, Integer.MAX_VALUE};
        for (int i : outside) {
            check.same("message(1, " + k + ", " + i + ")", mill.message(1, k, i), ProcessMill.NONE);
        }
    }

    private static void rowsOfMessages() {
        ProcessMill mill = Mills.loaded(Mills.w(20, 0), Mills.w(2, 1, 8), Mills.w(7, 2, 1, 0), Mills.w(23, 0, 2),
                Mills.w(23, 0, 1), Mills.w(23, 0, 0), Mills.w(1, 2, 4), Mills.w(11, 7));
        mill.start(0, 0);
        mill.send(1, -9);
        mill.run(1);
        rowIs(mill, 0, 0, -9);
        rowIs(mill, 1, -1, 1, 8, 2, 1);
        rowIs(mill, 2, 1, 8);
        rowIs(mill, 3, 2, 1);
    }

    private static void whereThereIsNone() {
        ProcessMill mill = new ProcessMill();
        mill.start(0, 0);
        mill.send(1, 3);
        int[] places = {1, 39, 40, -1, Integer.MIN_VALUE, Integer.MAX_VALUE};
        for (int k : places) {
            check.same("message(1, " + k + ", 0)", mill.message(1, k, 0), ProcessMill.NONE);
        }
        mill.run(1);
        check.same("a message of a dead one", mill.message(1, 0, 0), ProcessMill.NONE);
    }
}
