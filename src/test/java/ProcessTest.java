/** Promise 8. */
final class ProcessTest {
    private static final Check check = new Check();

    public static void main(String[] args) {
        wrongAsksAreRefused();
        everyFact();
        theDead();
        theWordItIsAt();
        check.end();
    }

    private static void wrongAsksAreRefused() {
        ProcessMill mill = new ProcessMill();
        mill.start(0, 0);
        int[] pids = {0, -1, 2, 60, Integer.MIN_VALUE, Integer.MAX_VALUE};
        for (int pid : pids) {
            check.illegalArgument("process(" + pid + ", 0)", () -> mill.process(pid, 0));
        }
        int[] facts = {-1, 11, Integer.MIN_VALUE, Integer.MAX_VALUE};
        for (int what : facts) {
            check.illegalArgument("process(1, " + what + ")", () -> mill.process(1, what));
        }
    }

    private static void factsAre(ProcessMill mill, int pid, int... due) {
        for (int what = 0; what < due.length; what++) {
            check.same("process(" + pid + ", " + what + ")", mill.process(pid, what), due[what]);
        }
    }

    private static ProcessMill busy(int lastOperation) {
        ProcessMill mill = Mills.loaded(Mills.w(22, 1, 100), Mills.w(22, 1, 100), Mills.w(33, -1), Mills.w(34, 12),
                Mills.w(17, 90), Mills.w(26), Mills.w(26), Mills.w(15, 8), Mills.w(15, 9), Mills.w(17, 91),
                Mills.w(17, 92), Mills.w(lastOperation, 70));
        mill.word(100, 27, 100, 0, 0);
        mill.start(0, 2);
        mill.send(1, 1);
        mill.send(1, 2);
        mill.send(1, 3);
        mill.run(1);
        return mill;
    }

    private static void everyFact() {
        factsAre(busy(11), 1, Mills.READY, 70, 2, 12, 1, 3, 2, 2, 2, 3, 12);
        factsAre(busy(11), 2, Mills.READY, 100, 2, ProcessMill.NONE, 0, 0, 0, 1, 0, 0, 0);
    }

    private static void theDead() {
        factsAre(busy(0), 1, Mills.DEAD, 12, 2, ProcessMill.NONE, 1, 0, 0, 0, 0, 0, 12);
        factsAre(busy(0), 2, Mills.READY, 100, 2, ProcessMill.NONE, 0, 0, 0, 0, 0, 0, 0);
    }

    private static void theWordItIsAt() {
        ProcessMill mill = new ProcessMill();
        mill.word(10, 27, 77, 0, 0);
        mill.word(299, 27, 77, 0, 0);
        mill.start(10, 1);
        mill.start(299, 1);
        mill.start(200, 1);
        mill.run(9);
        check.same("of one that waits, the one behind", mill.process(1, 1), 11);
        check.same("of one that waits at word 299", mill.process(2, 1), 0);
        check.same("of one that died by a word, the one behind", mill.process(3, 1), 201);
        mill.send(1, 5);
        check.same("of one that is woken", mill.process(1, 1), 77);
    }
}
