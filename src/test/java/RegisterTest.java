/** Promise 9. */
final class RegisterTest {
    private static final Check check = new Check();

    public static void main(String[] args) {
        wrongAsksAreRefused();
        rowsOfRegisters();
        theReason();
        theLongestTerm();
        everyPid();
        theLongestReason();
        everyRegister();
        check.end();
    }

    private static void wrongAsksAreRefused() {
        ProcessMill mill = new ProcessMill();
        mill.start(0, 0);
        int[] pids = {0, -1, 2, Integer.MIN_VALUE, Integer.MAX_VALUE};
        for (int pid : pids) {
            check.illegalArgument("register(" + pid + ", 0, 0)", () -> mill.register(pid, 0, 0));
        }
        int[] registers = {-1, 9, Integer.MIN_VALUE, Integer.MAX_VALUE};
        for (int register : registers) {
            check.illegalArgument("register(1, " + register + ", 0)", () -> mill.register(1, register, 0));
        }
    }

    private static void rowIs(ProcessMill mill, int register, int... due) {
        for (int i = 0; i < due.length; i++) {
            check.same("register(1, " + register + ", " + i + ")", mill.register(1, register, i), due[i]);
        }
        int[] outside = {due.length, due.length + 1, 95, -1, Integer.MIN_VALUE, Integer.MAX_VALUE};
        for (int i : outside) {
            check.same("register(1, " + register + ", " + i + ")", mill.register(1, register, i), ProcessMill.NONE);
        }
    }

    private static void rowsOfRegisters() {
        ProcessMill mill = Mills.loaded(Mills.w(1, 0, -7), Mills.w(2, 1, 42), Mills.w(20, 2), Mills.w(7, 3, 0, 1),
                Mills.w(7, 7, 3, 2), Mills.w(7, 6, 2, 3), Mills.w(0));
        mill.start(0, 0);
        mill.run(1);
        rowIs(mill, 0, 0, -7);
        rowIs(mill, 1, 1, 42);
        rowIs(mill, 2, 2, 1);
        rowIs(mill, 3, -1, 0, -7, 1, 42);
        rowIs(mill, 4, 0, 0);
        rowIs(mill, 6, -1, 2, 1, -1, 0, -7, 1, 42);
        rowIs(mill, 7, -1, -1, 0, -7, 1, 42, 2, 1);
        rowIs(mill, 8, 1, 0);
    }

    private static void theReason() {
        ProcessMill mill = Mills.loaded(Mills.w(2, 0, 9), Mills.w(7, 1, 0, 0), Mills.w(27, 3), Mills.w(19, 1));
        mill.start(0, 0);
        check.same("the reason while it is ready", Mills.reason(mill, 1), "none");
        mill.run(1);
        check.same("the reason while it waits", Mills.reason(mill, 1), "none");
        mill.send(1, 1);
        mill.run(1);
        rowIs(mill, 8, -1, 1, 9, 1, 9);
    }

    private static void theLongestTerm() {
        ProcessMill mill = Mills.loaded(Mills.w(7), Mills.w(7), Mills.w(7), Mills.w(7), Mills.w(7), Mills.w(27));
        mill.start(0, 0);
        mill.run(1);
        int ends = 0;
        int pairs = 0;
        for (int i = 0; i < 95; i++) {
            if (mill.register(1, 0, i) == -1) {
                pairs++;
            } else {
                ends++;
                i++;
            }
        }
        check.same("pairs told", pairs, 31);
        check.same("ends told", ends, 32);
        check.same("the last number", mill.register(1, 0, 94), 0);
        check.same("behind it", mill.register(1, 0, 95), ProcessMill.NONE);
    }

    private static void everyPid() {
        ProcessMill mill = Mills.loaded(Mills.w(20, 7), Mills.w(11, 1));
        for (int pid = 1; pid <= 60; pid++) {
            mill.start(0, 1);
        }
        mill.run(60);
        for (int pid = 1; pid <= 60; pid++) {
            check.same("X7 of pid " + pid, Mills.register(mill, pid, 7), "p" + pid);
        }
        check.illegalArgument("register(61, 0, 0)", () -> mill.register(61, 0, 0));
        check.illegalArgument("register(60, 9, 0)", () -> mill.register(60, 9, 0));
        check.illegalArgument("register(0, 8, 0)", () -> mill.register(0, 8, 0));
    }

    private static void everyRegister() {
        ProcessMill mill = new ProcessMill();
        for (int k = 0; k < 8; k++) {
            mill.word(k, 1, k, -100 - k, 0);
        }
        mill.word(8, 27, 0, 0, 0);
        mill.start(0, 1);
        mill.run(1);
        for (int k = 0; k < 8; k++) {
            rowIs(mill, k, 0, -100 - k);
        }
        rowIs(mill, 8);
    }

    /** A reason of 32 ends is whole: 95 numbers, the last of them the 9. */
    private static void theLongestReason() {
        ProcessMill mill = Mills.loaded(Mills.w(2, 1, 9));
        for (int k = 1; k < 32; k++) {
            mill.word(k, 7, 0, 0, 1);
        }
        mill.word(32, 19, 0, 0, 0);
        mill.start(0, 1);
        mill.run(3);
        check.same("it is dead", mill.process(1, 0), Mills.DEAD);
        int[] due = new int[95];
        for (int k = 0; k < 31; k++) {
            due[k] = -1;
            due[33 + 2 * k] = 1;
            due[34 + 2 * k] = 9;
        }
        rowIs(mill, 8, due);
    }
}
