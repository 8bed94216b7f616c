/** Promise 3. */
final class StartTest {
    private static final Check check = new Check();

    public static void main(String[] args) {
        wrongStartsAreRefused();
        aStartedOne();
        sixtyAndNoMore();
        check.end();
    }

    private static void wrongStartsAreRefused() {
        ProcessMill mill = new ProcessMill();
        int[] places = {-1, 300, Integer.MIN_VALUE, Integer.MAX_VALUE};
        for (int at : places) {
            check.illegalArgument("start(" + at + ", 0)", () -> mill.start(at, 0));
        }
        int[] priorities = {-1, 3, Integer.MIN_VALUE, Integer.MAX_VALUE};
        for (int priority : priorities) {
            check.illegalArgument("start(0, " + priority + ")", () -> mill.start(0, priority));
        }
        check.same("processes after refused starts", mill.total(0), 0);
    }

    private static void aStartedOne() {
        ProcessMill mill = new ProcessMill();
        int[] due = {Mills.READY, 299, 2, ProcessMill.NONE, 0, 0, 0, 0, 0, 0, 0};
        check.same("the first pid", mill.start(299, 2), 1);
        for (int what = 0; what < due.length; what++) {
            check.same("process(1, " + what + ") at first", mill.process(1, what), due[what]);
        }
        for (int register = 0; register < 8; register++) {
            check.same("X" + register + " at first", Mills.register(mill, 1, register), "0");
        }
        check.same("the second pid", mill.start(0, 0), 2);
        check.same("priority of the second", mill.process(2, 2), 0);
    }

    private static void sixtyAndNoMore() {
        ProcessMill mill = new ProcessMill();
        for (int pid = 1; pid <= 60; pid++) {
            check.same("pid " + pid, mill.start(0, 1), pid);
        }
        check.illegalState("the 61st start", () -> mill.start(0, 1));
        check.illegalArgument("the 61st start at no word", () -> mill.start(300, 1));
        mill.run(60);
        check.same("not dead", mill.total(1), 0);
        check.illegalState("a start after all have died", () -> mill.start(0, 1));
        check.same("processes", mill.total(0), 60);
    }
}
