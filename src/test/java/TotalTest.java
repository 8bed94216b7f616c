/** Promise 11. */
final class TotalTest {
    private static final Check check = new Check();

    public static void main(String[] args) {
        wrongAsksAreRefused();
        everyTotal();
        failedWordsAreDone();
        totalsAtTheirGreatest();
        whatCountsAsAMessage();
        deadWaitingAndReady();
        check.end();
    }

    private static void wrongAsksAreRefused() {
        ProcessMill mill = new ProcessMill();
        int[] totals = {-1, 9, Integer.MIN_VALUE, Integer.MAX_VALUE};
        for (int what : totals) {
            check.illegalArgument("total(" + what + ")", () -> mill.total(what));
        }
    }

    private static void totalsAre(ProcessMill mill, int... due) {
        for (int what = 0; what < due.length; what++) {
            check.same("total(" + what + ")", mill.total(what), due[what]);
        }
    }

    private static void everyTotal() {
        ProcessMill mill = Mills.loaded(Mills.w(33, 1), Mills.w(22, 1, 50), Mills.w(31, 2, 1), Mills.w(31, 2, 1),
                Mills.w(36, 1), Mills.w(7, 3, 1, 2), Mills.w(36, 3), Mills.w(23, 1, 3), Mills.w(27, 9), Mills.w(26),
                Mills.w(11, 8));
        mill.start(0, 1);
        mill.start(100, 2);
        mill.start(100, 2);
        totalsAre(mill, 3, 3, 3, 0, 0, 0, 0, 0, 0);
        mill.run(1);
        totalsAre(mill, 4, 4, 3, 1, 9, 0, 7, 2, 1);
        mill.pass(15);
        mill.run(1);
        totalsAre(mill, 4, 3, 3, 2, 10, 15, 7, 2, 4);
        mill.run(2);
        totalsAre(mill, 4, 2, 1, 4, 20, 15, 7, 2, 4);
        check.same("messages of pid 1", Mills.messages(mill, 1),
                "(a6 (p4 a0)) (a7 (1 (p4 a0))) (a7 (2 (p4 a0)))");
    }

    private static void failedWordsAreDone() {
        ProcessMill mill = Mills.loaded(Mills.w(17, 2), Mills.w(8, 1, 1), Mills.w(8, 1, 1));
        mill.start(0, 1);
        mill.run(1);
        check.same("words of the process", mill.process(1, 10), 3);
        check.same("words of all", mill.total(4), 3);
    }

    private static void totalsAtTheirGreatest() {
        ProcessMill mill = Mills.loaded(Mills.w(20, 1), Mills.w(31, 2, 1), Mills.w(11, 1));
        for (int pid = 1; pid <= 60; pid++) {
            mill.start(pid == 1 ? 0 : 100, pid == 1 ? 0 : 1);
        }
        totalsAre(mill, 60, 60, 60, 0, 0, 0, 0, 0, 0);
        check.illegalState("the 61st", () -> mill.start(0, 1));
        totalsAre(mill, 60, 60, 60, 0, 0, 0, 0, 0, 0);
        mill.run(60);
        check.same("watches made, then it failed", mill.total(7), 200);
        mill.run(60);
        check.same("not dead", mill.total(1), 0);
        check.same("ready", mill.total(2), 0);
        check.same("processes there were", mill.total(0), 60);
        check.illegalArgument("total(9)", () -> mill.total(9));
    }

    /** By send, by 23, of exit and of down; not what finds no room or nobody. */
    private static void whatCountsAsAMessage() {
        ProcessMill mill = Mills.loaded(Mills.w(33, 1), Mills.w(20, 1), Mills.w(23, 1, 1), Mills.w(32, 1, 0),
                Mills.w(21, 2, 100), Mills.w(2, 3, 1), Mills.w(32, 2, 3), Mills.w(31, 4, 2), Mills.w(29, 2),
                Mills.w(23, 2, 1), Mills.w(23, 3, 1), Mills.w(11, 11));
        mill.start(0, 0);
        mill.send(1, 1);
        mill.run(1);
        check.same("the messages", Mills.messages(mill, 1), "1 p1 (a6 (p1 0)) (a7 (1 (p2 a3))) (a6 (p2 a3))");
        check.same("messages that came", mill.total(8), 5);
        for (int k = 5; k < 40; k++) {
            mill.send(1, k);
        }
        check.same("messages that came", mill.total(8), 40);
        check.same("no room", mill.send(1, 1), false);
        check.same("dead", mill.send(2, 1), false);
        check.same("messages that came", mill.total(8), 40);
    }

    private static void deadWaitingAndReady() {
        ProcessMill mill = Mills.loaded(Mills.w(27, 0));
        mill.word(20, 11, 20, 0, 0);
        mill.start(0, 1);
        mill.start(20, 1);
        mill.start(10, 1);
        totalsAre(mill, 3, 3, 3, 0);
        mill.run(1);
        totalsAre(mill, 3, 3, 2, 1, 1);
        mill.run(1);
        totalsAre(mill, 3, 3, 2, 2, 13);
        mill.run(1);
        totalsAre(mill, 3, 2, 1, 3, 14);
        mill.send(1, 1);
        totalsAre(mill, 3, 2, 2, 3, 14);
    }
}
