/** Promise 3. */
final class StartTest {
    private static final Check check = new Check();

    public static void main(String[] args) {
        wrongStartsAreRefused();
        aStartedOne();
        sixtyAndNoMore();
        everyPlaceAndPriority();
        sixtyByWordsAndByCalls();
        check.end();
    }

    private static void wrongStartsAreRefused() {
        ProcessMill mill = new ProcessMill();
        int[] places = {-1, 300, Integer.MIN_VALUE, Integer.MAX_VALUE};
        for (int at : places) {
            check.illegalArgument("start(" + at + ", 0)", () -> mill.start(at, 0));
        }
        int[] priorities = {-1, 3, Integer.MIN_VALUE, Integer.MAX_VALUE};
        for (int priority : priorities) {
            check.illegalArgument("start(0, " + priority + ")", () -> mill.start(0, priority));
        }
        check.same("processes after refused starts", mill.total(0), 0);
    }

    private static void aStartedOne() {
        ProcessMill mill = new ProcessMill();
        int[] due = {Mills.READY, 299, 2, ProcessMill.NONE, 0, 0, 0, 0, 0, 0, 0};
        check.same("the first pid", mill.start(299, 2), 1);
        for (int what = 0; what < due.length; what++) {
            check.same("process(1, " + what + ") at first", mill.process(1, what), due[what]);
        }
        for (int register = 0; register < 8; register++) {
            check.same("X" + register + " at first", Mills.register(mill, 1, register), "0");
        }
        check.same("the second pid", mill.start(0, 0), 2);
        check.same("priority of the second", mill.process(2, 2), 0);
    }

    private static void sixtyAndNoMore() {
        ProcessMill mill = new ProcessMill();
        for (int pid = 1; pid <= 60; pid++) {
            check.same("pid " + pid, mill.start(0, 1), pid);
        }
        check.illegalState("the 61st start", () -> mill.start(0, 1));
        check.illegalArgument("the 61st start at no word", () -> mill.start(300, 1));
        mill.run(60);
        check.same("not dead", mill.total(1), 0);
        check.illegalState("a start after all have died", () -> mill.start(0, 1));
        check.same("processes", mill.total(0), 60);
    }

    private static void everyPlaceAndPriority() {
        for (int priority = 0; priority <= 2; priority++) {
            ProcessMill mill = new ProcessMill();
            mill.start(0, priority);
            mill.start(299, priority);
            check.same("the first word", mill.process(1, 1), 0);
            check.same("the last word", mill.process(2, 1), 299);
            check.same("the priority", mill.process(1, 2) + mill.process(2, 2), 2 * priority);
        }
    }

    /** A process that makes so many others, each of which waits, and then waits. */
    private static ProcessMill made(int others) {
        ProcessMill mill = Mills.loaded(Mills.w(1, 1, others), Mills.w(1, 2, 1), Mills.w(12, 6, 1, 3),
                Mills.w(21, 4, 6), Mills.w(5, 1, 1, 2), Mills.w(11, 2), Mills.w(27, 6));
        mill.start(0, 1);
        mill.run(60);
        mill.run(60);
        return mill;
    }

    private static void sixtyByWordsAndByCalls() {
        ProcessMill one = made(58);
        check.same("processes", one.total(0), 59);
        check.same("the 60th", one.start(0, 1), 60);
        check.illegalState("the 61st", () -> one.start(0, 1));
        ProcessMill none = made(59);
        check.same("processes", none.total(0), 60);
        check.illegalState("a start behind 60 made by words", () -> none.start(0, 1));
        check.same("processes", none.total(0), 60);
    }
}
