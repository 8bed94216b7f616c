/** "What it is": an object answers as promised up to its 512th call, also of the dearest calls. */
final class CallsTest {
    private static final int CALLS = 512;
    private static final Check check = new Check();

    public static void main(String[] args) {
        wordAllTheTime();
        startAllTheTime();
        sendAllTheTime();
        runAllTheTime();
        passAllTheTime();
        printAllTheTime();
        refusedAllTheTime();
        check.end();
    }

    private static void wordAllTheTime() {
        ProcessMill mill = new ProcessMill();
        for (int k = 0; k < CALLS - 3; k++) {
            mill.word(k % 300, 1, 0, k, 0);
        }
        mill.start(208, 1);
        mill.run(1);
        check.same("the 512th call, behind 509 of word", mill.register(1, 0, 1), 219);
        ProcessMill again = new ProcessMill();
        for (int k = 0; k < CALLS - 3; k++) {
            again.word(k % 300, 1, 0, k, 0);
        }
        again.start(197, 1);
        again.run(1);
        check.same("the 512th call, at the last word that was written again", again.register(1, 0, 1), 508);
    }

    private static void startAllTheTime() {
        ProcessMill mill = new ProcessMill();
        for (int pid = 1; pid <= 60; pid++) {
            mill.start(0, 1);
        }
        for (int k = 61; k < CALLS; k++) {
            check.illegalState("call " + k + ", a start", () -> mill.start(0, 1));
        }
        check.same("the 512th call, how many processes", mill.total(0), 60);
    }

    private static void sendAllTheTime() {
        ProcessMill mill = new ProcessMill();
        mill.start(0, 1);
        for (int k = 2; k < CALLS; k++) {
            check.same("call " + k + ", a send", mill.send(1, k), k <= 41);
        }
        check.same("the 512th call, messages that came", mill.total(8), 40);
    }

    private static ProcessMill afterRuns() {
        ProcessMill mill = Mills.loaded(Mills.w(1, 1, 1), Mills.w(4, 0, 0, 1), Mills.w(11, 1));
        mill.start(0, 1);
        for (int k = 5; k < CALLS; k++) {
            check.same("call " + k + ", a run", mill.run(60), 60);
        }
        return mill;
    }

    private static void runAllTheTime() {
        int words = 507 * 60 * 12;
        check.same("the 512th call, words done", afterRuns().total(4), words);
        check.same("the 512th call, words of the process", afterRuns().process(1, 10), words);
        check.same("the 512th call, slices", afterRuns().total(3), 507 * 60);
        check.same("the 512th call, what was counted", afterRuns().register(1, 0, 1), words / 2);
    }

    private static ProcessMill afterPasses() {
        ProcessMill mill = Mills.loaded(Mills.w(1, 1, 5_070_000), Mills.w(28, 20, 1, 30));
        mill.start(0, 1);
        mill.run(1);
        for (int k = 5; k < CALLS - 1; k++) {
            check.same("call " + k + ", a pass", mill.pass(10000), 0);
        }
        check.same("call 511, a pass", mill.pass(10000), 1);
        return mill;
    }

    private static void passAllTheTime() {
        check.same("the 512th call, time", afterPasses().total(5), 5_070_000);
        check.same("the 512th call, the word it is at", afterPasses().process(1, 1), 30);
    }

    /** As much is printed as can be: eleven times a slice a term of 32 ends, 95 numbers. */
    private static void printAllTheTime() {
        ProcessMill mill = new ProcessMill();
        for (int k = 0; k < 5; k++) {
            mill.word(k, 7, 0, 0, 0);
        }
        for (int k = 5; k < 16; k++) {
            mill.word(k, 36, 0, 0, 0);
        }
        mill.word(16, 11, 5, 0, 0);
        mill.start(0, 1);
        for (int k = 19; k < CALLS; k++) {
            mill.run(60);
        }
        int words = 493 * 60 * 12;
        int printed = (words - 5) / 12 * 11 + Math.min(11, (words - 5) % 12);
        check.same("the 512th call, numbers printed", mill.total(6), printed * 95);
    }

    private static void refusedAllTheTime() {
        ProcessMill mill = new ProcessMill();
        mill.start(7, 2);
        for (int k = 2; k < CALLS; k++) {
            check.illegalArgument("call " + k + ", a run", () -> mill.run(61));
        }
        check.same("the 512th call, a run", mill.run(60), 1);
    }
}
