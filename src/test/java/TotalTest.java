/** Promise 11. */
final class TotalTest {
    private static final Check check = new Check();

    public static void main(String[] args) {
        wrongAsksAreRefused();
        everyTotal();
        failedWordsAreDone();
        check.end();
    }

    private static void wrongAsksAreRefused() {
        ProcessMill mill = new ProcessMill();
        int[] totals = {-1, 9, Integer.MIN_VALUE, Integer.MAX_VALUE};
        for (int what : totals) {
            check.illegalArgument("total(" + what + ")", () -> mill.total(what));
        }
    }

    private static void totalsAre(ProcessMill mill, int... due) {
        for (int what = 0; what < due.length; what++) {
            check.same("total(" + what + ")", mill.total(what), due[what]);
        }
    }

    private static void everyTotal() {
        ProcessMill mill = Mills.loaded(Mills.w(33, 1), Mills.w(22, 1, 50), Mills.w(31, 2, 1), Mills.w(31, 2, 1),
                Mills.w(36, 1), Mills.w(7, 3, 1, 2), Mills.w(36, 3), Mills.w(23, 1, 3), Mills.w(27, 9), Mills.w(26),
                Mills.w(11, 8));
        mill.start(0, 1);
        mill.start(100, 2);
        mill.start(100, 2);
        totalsAre(mill, 3, 3, 3, 0, 0, 0, 0, 0, 0);
        mill.run(1);
        totalsAre(mill, 4, 4, 3, 1, 9, 0, 7, 2, 1);
        mill.pass(15);
        mill.run(1);
        totalsAre(mill, 4, 3, 3, 2, 10, 15, 7, 2, 4);
        mill.run(2);
        totalsAre(mill, 4, 2, 1, 4, 20, 15, 7, 2, 4);
        check.same("messages of pid 1", Mills.messages(mill, 1),
                "(a6 (p4 a0)) (a7 (1 (p4 a0))) (a7 (2 (p4 a0)))");
    }

    private static void failedWordsAreDone() {
        ProcessMill mill = Mills.loaded(Mills.w(17, 2), Mills.w(8, 1, 1), Mills.w(8, 1, 1));
        mill.start(0, 1);
        mill.run(1);
        check.same("words of the process", mill.process(1, 10), 3);
        check.same("words of all", mill.total(4), 3);
    }
}
