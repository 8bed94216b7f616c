/** Promise 5: slices, their length and their turns. */
final class RunTest {
    private static final Check check = new Check();

    public static void main(String[] args) {
        wrongNumbersAreRefused();
        twelveWordsASlice();
        turnsByPriority();
        theEighthSlice();
        wokenOnesComeBeforeTheOneThatWokeThem();
        newOnesComeBeforeTheirMaker();
        aSliceEndsWithWaitingOrDeath();
        noSlicesAndFewerSlices();
        theTwelfthWord();
        theEighthOfAll();
        idleRunsAreNoSlices();
        check.end();
    }

    private static void wrongNumbersAreRefused() {
        ProcessMill mill = Mills.loaded(Mills.w(11, 0));
        mill.start(0, 1);
        int[] numbers = {-1, 61, Integer.MIN_VALUE, Integer.MAX_VALUE};
        for (int n : numbers) {
            check.illegalArgument("run(" + n + ")", () -> mill.run(n));
        }
        check.same("slices after refused runs", mill.total(3), 0);
        check.same("run(0)", mill.run(0), 0);
        check.same("run(60)", mill.run(60), 60);
        check.same("slices", mill.total(3), 60);
    }

    private static void twelveWordsASlice() {
        ProcessMill mill = new ProcessMill();
        for (int k = 0; k < 300; k++) {
            mill.word(k, 1, 0, k, 0);
        }
        mill.start(295, 1);
        mill.run(1);
        check.same("words in a slice", mill.process(1, 10), 12);
        check.same("it is at, beyond word 299", mill.process(1, 1), 7);
        check.same("X0", Mills.register(mill, 1, 0), "6");
    }

    private static void turnsByPriority() {
        ProcessMill mill = Mills.loaded(Mills.w(20, 0), Mills.w(36, 0), Mills.w(0));
        mill.start(0, 2);
        mill.start(0, 1);
        mill.start(0, 0);
        mill.start(0, 1);
        mill.start(0, 0);
        check.same("slices until all are dead", mill.run(60), 5);
        check.same("the order", Mills.printed(mill), "p3 p5 p2 p4 p1");
    }

    private static void theEighthSlice() {
        ProcessMill mill = Mills.loaded(Mills.w(20, 0), Mills.w(36, 0));
        for (int k = 2; k < 11; k++) {
            mill.word(k, 3, 1, 1, 0);
        }
        mill.word(11, 11, 0, 0, 0);
        mill.start(0, 0);
        mill.start(0, 1);
        mill.start(0, 2);
        mill.start(0, 2);
        for (int k = 0; k < 24; k++) {
            mill.run(1);
        }
        check.same("turns", Mills.printed(mill),
                "p1 p1 p1 p1 p1 p1 p1 p3 p1 p1 p1 p1 p1 p1 p1 p4 p1 p1 p1 p1 p1 p1 p1 p3");
        ProcessMill fewer = Mills.loaded(Mills.w(11, 0));
        fewer.start(0, 0);
        fewer.start(0, 1);
        fewer.run(8);
        check.same("the greatest that is ready", fewer.process(2, 10), 12);
    }

    private static void wokenOnesComeBeforeTheOneThatWokeThem() {
        ProcessMill mill = Mills.loaded(Mills.w(34, 9), Mills.w(27, 10));
        Mills.load(mill, 20, Mills.w(2, 1, 9), Mills.w(23, 1, 0), Mills.w(11, 22));
        mill.word(30, 11, 30, 0, 0);
        mill.start(0, 1);
        mill.run(1);
        mill.start(20, 1);
        mill.start(30, 1);
        mill.run(1);
        check.same("pid 1 is woken", mill.process(1, 0), Mills.READY);
        mill.run(1);
        check.same("pid 3 was ready before it", mill.process(3, 10), 12);
        mill.run(1);
        check.same("then comes pid 1", mill.process(1, 0), Mills.DEAD);
        mill.run(1);
        check.same("then pid 2, which woke it", mill.process(2, 10), 24);
    }

    private static void newOnesComeBeforeTheirMaker() {
        ProcessMill mill = Mills.loaded(Mills.w(21, 1, 20), Mills.w(21, 1, 20), Mills.w(20, 0), Mills.w(36, 0),
                Mills.w(11, 2));
        Mills.load(mill, 20, Mills.w(20, 0), Mills.w(36, 0), Mills.w(0));
        mill.start(0, 1);
        mill.run(4);
        check.same("the order", Mills.printed(mill), "p1 p1 p1 p2 p3 p1 p1 p1 p1");
    }

    private static void aSliceEndsWithWaitingOrDeath() {
        ProcessMill mill = Mills.loaded(Mills.w(3), Mills.w(27, 5));
        mill.start(0, 1);
        check.same("one slice, then nothing is ready", mill.run(9), 1);
        check.same("words until it waited", mill.process(1, 10), 2);
        mill.start(100, 1);
        check.same("one slice, then it is dead", mill.run(9), 1);
        check.same("words until it died", mill.process(2, 10), 1);
    }

    private static void noSlicesAndFewerSlices() {
        ProcessMill mill = new ProcessMill();
        for (int pid = 1; pid <= 60; pid++) {
            mill.start(0, 1);
        }
        check.same("run(0)", mill.run(0), 0);
        check.same("slices", mill.total(3), 0);
        check.same("words done", mill.total(4), 0);
        check.same("run(1)", mill.run(1), 1);
        check.same("run(58)", mill.run(58), 58);
        check.same("run(60) with one that is ready", mill.run(60), 1);
        check.same("run(60) with none", mill.run(60), 0);
        check.same("slices", mill.total(3), 60);
        ProcessMill all = new ProcessMill();
        for (int pid = 1; pid <= 60; pid++) {
            all.start(0, 1);
        }
        check.same("run(60) with sixty", all.run(60), 60);
        check.same("not dead", all.total(1), 0);
    }

    /** Eleven words, then the twelfth, then a thirteenth that prints. */
    private static ProcessMill twelfth(int operation) {
        ProcessMill mill = new ProcessMill();
        for (int k = 0; k < 11; k++) {
            mill.word(k, 3, 0, 0, 0);
        }
        mill.word(11, operation, 12, 0, 0);
        mill.word(12, 36, 0, 0, 0);
        mill.start(0, 1);
        mill.run(1);
        return mill;
    }

    private static void theTwelfthWord() {
        check.same("ready behind the twelfth", twelfth(11).process(1, 0), Mills.READY);
        check.same("the thirteenth is not done", twelfth(11).total(6), 0);
        check.same("the twelfth is done", twelfth(36).total(6), 2);
        check.same("it waits by the twelfth", twelfth(27).process(1, 0), Mills.WAITS);
        check.same("it is dead by the twelfth", twelfth(0).process(1, 0), Mills.DEAD);
        check.same("words done", twelfth(0).total(4), 12);
        ProcessMill next = twelfth(11);
        next.run(1);
        check.same("the thirteenth is the first of the next slice", next.total(6), 2);
    }

    /** Pid 1 of the least priority and pid 2 of the greatest, which never end. */
    private static ProcessMill two() {
        ProcessMill mill = Mills.loaded(Mills.w(11, 0));
        mill.start(0, 0);
        mill.start(0, 2);
        return mill;
    }

    private static void theEighthOfAll() {
        int[][] runsAndSlicesOfTheGreatest = {{7, 0}, {8, 1}, {9, 1}, {15, 1}, {16, 2}, {17, 2}, {60, 7}};
        for (int[] row : runsAndSlicesOfTheGreatest) {
            ProcessMill mill = two();
            mill.run(row[0]);
            check.same("slices of the greatest in " + row[0], mill.process(2, 10), 12 * row[1]);
            check.same("slices of the least in " + row[0], mill.process(1, 10), 12 * (row[0] - row[1]));
        }
        ProcessMill apart = two();
        apart.run(5);
        apart.run(2);
        check.same("5 and 2", apart.process(2, 10), 0);
        apart.run(1);
        check.same("5 and 2 and 1", apart.process(2, 10), 12);
    }

    private static void idleRunsAreNoSlices() {
        ProcessMill mill = new ProcessMill();
        mill.word(0, 11, 0, 0, 0);
        for (int k = 0; k < 7; k++) {
            check.same("a run with nothing ready", mill.run(1), 0);
        }
        mill.start(0, 0);
        mill.start(0, 2);
        mill.run(7);
        check.same("the first seven", mill.process(2, 10), 0);
        mill.run(0);
        check.illegalArgument("run(61)", () -> mill.run(61));
        mill.run(1);
        check.same("the eighth", mill.process(2, 10), 12);
    }
}
