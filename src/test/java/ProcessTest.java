/** Promise 8. */
final class ProcessTest {
    private static final Check check = new Check();

    public static void main(String[] args) {
        wrongAsksAreRefused();
        everyFact();
        theDead();
        theWordItIsAt();
        everyPidAndFact();
        factsAtTheirGreatest();
        sixtyLinked();
        theFirstAndTheLastName();
        behindTheLastWord();
        theDeadByAnothersWord();
        check.end();
    }

    private static void wrongAsksAreRefused() {
        ProcessMill mill = new ProcessMill();
        mill.start(0, 0);
        int[] pids = {0, -1, 2, 60, Integer.MIN_VALUE, Integer.MAX_VALUE};
        for (int pid : pids) {
            check.illegalArgument("process(" + pid + ", 0)", () -> mill.process(pid, 0));
        }
        int[] facts = {-1, 11, Integer.MIN_VALUE, Integer.MAX_VALUE};
        for (int what : facts) {
            check.illegalArgument("process(1, " + what + ")", () -> mill.process(1, what));
        }
    }

    private static void factsAre(ProcessMill mill, int pid, int... due) {
        for (int what = 0; what < due.length; what++) {
            check.same("process(" + pid + ", " + what + ")", mill.process(pid, what), due[what]);
        }
    }

    private static ProcessMill busy(int lastOperation) {
        ProcessMill mill = Mills.loaded(Mills.w(22, 1, 100), Mills.w(22, 1, 100), Mills.w(33, -1), Mills.w(34, 12),
                Mills.w(17, 90), Mills.w(26), Mills.w(26), Mills.w(15, 8), Mills.w(15, 9), Mills.w(17, 91),
                Mills.w(17, 92), Mills.w(lastOperation, 70));
        mill.word(100, 27, 100, 0, 0);
        mill.start(0, 2);
        mill.send(1, 1);
        mill.send(1, 2);
        mill.send(1, 3);
        mill.run(1);
        return mill;
    }

    private static void everyFact() {
        factsAre(busy(11), 1, Mills.READY, 70, 2, 12, 1, 3, 2, 2, 2, 3, 12);
        factsAre(busy(11), 2, Mills.READY, 100, 2, ProcessMill.NONE, 0, 0, 0, 1, 0, 0, 0);
    }

    private static void theDead() {
        factsAre(busy(0), 1, Mills.DEAD, 12, 2, ProcessMill.NONE, 1, 0, 0, 0, 0, 0, 12);
        factsAre(busy(0), 2, Mills.READY, 100, 2, ProcessMill.NONE, 0, 0, 0, 0, 0, 0, 0);
    }

    private static void theWordItIsAt() {
        ProcessMill mill = new ProcessMill();
        mill.word(10, 27, 77, 0, 0);
        mill.word(299, 27, 77, 0, 0);
        mill.start(10, 1);
        mill.start(299, 1);
        mill.start(200, 1);
        mill.run(9);
        check.same("of one that waits, the one behind", mill.process(1, 1), 11);
        check.same("of one that waits at word 299", mill.process(2, 1), 0);
        check.same("of one that died by a word, the one behind", mill.process(3, 1), 201);
        mill.send(1, 5);
        check.same("of one that is woken", mill.process(1, 1), 77);
    }

    private static void everyPidAndFact() {
        ProcessMill mill = new ProcessMill();
        for (int pid = 1; pid <= 60; pid++) {
            mill.start(pid, pid % 3);
        }
        for (int pid = 1; pid <= 60; pid++) {
            check.same("word of pid " + pid, mill.process(pid, 1), pid);
            check.same("priority of pid " + pid, mill.process(pid, 2), pid % 3);
            check.same("words of pid " + pid, mill.process(pid, 10), 0);
        }
        check.illegalArgument("process(61, 0)", () -> mill.process(61, 0));
        check.illegalArgument("process(60, 11)", () -> mill.process(60, 11));
        check.illegalArgument("process(61, 11)", () -> mill.process(61, 11));
    }

    /** 16 words to come back to, 8 catches, 40 messages and the pointer behind them. */
    private static void factsAtTheirGreatest() {
        ProcessMill mill = new ProcessMill();
        for (int k = 0; k < 16; k++) {
            mill.word(k, 15, k + 1, 0, 0);
        }
        for (int k = 16; k < 24; k++) {
            mill.word(k, 17, 200, 0, 0);
        }
        for (int k = 24; k < 35; k++) {
            mill.word(k, 26, 0, 0, 0);
        }
        Mills.load(mill, 35, Mills.w(24, 37, 1), Mills.w(11, 24), Mills.w(26), Mills.w(27, 38));
        mill.start(0, 0);
        for (int k = 0; k < 40; k++) {
            mill.send(1, k);
        }
        mill.run(60);
        factsAre(mill, 1, Mills.WAITS, 39, 0, ProcessMill.NONE, 0, 40, 40, 0, 16, 8, 16 + 8 + 4 * 13 - 1 + 2);
    }

    private static void sixtyLinked() {
        ProcessMill mill = Mills.loaded(Mills.w(17, 3), Mills.w(22, 1, 50), Mills.w(11, 1), Mills.w(11, 3));
        mill.word(50, 27, 50, 0, 0);
        mill.start(0, 0);
        mill.run(60);
        mill.run(60);
        check.same("links of the first", mill.process(1, 7), 59);
        check.same("links of the second", mill.process(2, 7), 1);
        check.same("links of the last", mill.process(60, 7), 1);
        mill.word(3, 0, 0, 0, 0);
        mill.run(1);
        check.same("the first is dead", mill.process(1, 0), Mills.DEAD);
        check.same("links of the first", mill.process(1, 7), 0);
        check.same("links of the second", mill.process(2, 7), 0);
        check.same("links of the last", mill.process(60, 7), 0);
        check.same("not dead", mill.total(1), 59);
    }

    private static void theFirstAndTheLastName() {
        int[] names = {0, 1, 98, 99};
        for (int name : names) {
            ProcessMill mill = Mills.loaded(Mills.w(34, name), Mills.w(27));
            mill.start(0, 1);
            check.same("before it has name " + name, mill.process(1, 3), ProcessMill.NONE);
            mill.run(1);
            check.same("name " + name, mill.process(1, 3), name);
        }
    }

    /** Word 299 waits, fails, ends, goes on: what is behind it is word 0. */
    private static void behindTheLastWord() {
        int[][] words = {Mills.w(27, 5), Mills.w(8, 1, 1), Mills.w(0), Mills.w(16), Mills.w(19, 0)};
        for (int[] word : words) {
            ProcessMill mill = Mills.loaded(Mills.w(36, 0));
            Mills.load(mill, 299, word);
            mill.start(299, 1);
            mill.run(1);
            check.same("behind word 299, operation " + word[0], mill.process(1, 1), 0);
            check.same("words done", mill.process(1, 10), 1);
        }
        ProcessMill late = Mills.loaded(Mills.w(36, 0));
        Mills.load(late, 298, Mills.w(1, 1, 5), Mills.w(28, 20, 1, 30));
        late.start(298, 1);
        late.run(1);
        check.same("behind word 299, while it waits for a time", late.process(1, 1), 0);
        ProcessMill goes = Mills.loaded(Mills.w(27, 77));
        Mills.load(goes, 299, Mills.w(3));
        goes.start(299, 1);
        goes.run(1);
        check.same("word 0 is done behind word 299", goes.process(1, 1), 1);
    }

    /** Pid 1 kills pid 2 before it did a word, and pid 3, which waits; they are where they were. */
    private static void theDeadByAnothersWord() {
        ProcessMill mill = Mills.loaded(Mills.w(27, 1), Mills.w(2, 2, 1), Mills.w(35, 3, 9), Mills.w(32, 3, 2),
                Mills.w(21, 3, 299), Mills.w(32, 3, 2), Mills.w(27, 6));
        Mills.load(mill, 50, Mills.w(34, 9), Mills.w(27, 60));
        mill.start(0, 0);
        mill.start(50, 0);
        mill.run(2);
        mill.send(1, 0);
        mill.run(1);
        check.same("one that waited is behind that word", mill.process(2, 1), 52);
        check.same("one that was ready is at its word", mill.process(3, 1), 299);
        check.same("words of it", mill.process(3, 10), 0);
        check.same("both are dead", mill.total(1), 1);
    }
}
