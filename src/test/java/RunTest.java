/** Promise 5: slices, their length and their turns. */
final class RunTest {
    private static final Check check = new Check();

    public static void main(String[] args) {
        wrongNumbersAreRefused();
        twelveWordsASlice();
        turnsByPriority();
        theEighthSlice();
        wokenOnesComeBeforeTheOneThatWokeThem();
        newOnesComeBeforeTheirMaker();
        aSliceEndsWithWaitingOrDeath();
        check.end();
    }

    private static void wrongNumbersAreRefused() {
        ProcessMill mill = Mills.loaded(Mills.w(11, 0));
        mill.start(0, 1);
        int[] numbers = {-1, 61, Integer.MIN_VALUE, Integer.MAX_VALUE};
        for (int n : numbers) {
            check.illegalArgument("run(" + n + ")", () -> mill.run(n));
        }
        check.same("slices after refused runs", mill.total(3), 0);
        check.same("run(0)", mill.run(0), 0);
        check.same("run(60)", mill.run(60), 60);
        check.same("slices", mill.total(3), 60);
    }

    private static void twelveWordsASlice() {
        ProcessMill mill = new ProcessMill();
        for (int k = 0; k < 300; k++) {
            mill.word(k, 1, 0, k, 0);
        }
        mill.start(295, 1);
        mill.run(1);
        check.same("words in a slice", mill.process(1, 10), 12);
        check.same("it is at, beyond word 299", mill.process(1, 1), 7);
        check.same("X0", Mills.register(mill, 1, 0), "6");
    }

    private static void turnsByPriority() {
        ProcessMill mill = Mills.loaded(Mills.w(20, 0), Mills.w(36, 0), Mills.w(0));
        mill.start(0, 2);
        mill.start(0, 1);
        mill.start(0, 0);
        mill.start(0, 1);
        mill.start(0, 0);
        check.same("slices until all are dead", mill.run(60), 5);
        check.same("the order", Mills.printed(mill), "p3 p5 p2 p4 p1");
    }

    private static void theEighthSlice() {
        ProcessMill mill = Mills.loaded(Mills.w(20, 0), Mills.w(36, 0));
        for (int k = 2; k < 11; k++) {
            mill.word(k, 3, 1, 1, 0);
        }
        mill.word(11, 11, 0, 0, 0);
        mill.start(0, 0);
        mill.start(0, 1);
        mill.start(0, 2);
        mill.start(0, 2);
        for (int k = 0; k < 24; k++) {
            mill.run(1);
        }
        check.same("turns", Mills.printed(mill),
                "p1 p1 p1 p1 p1 p1 p1 p3 p1 p1 p1 p1 p1 p1 p1 p4 p1 p1 p1 p1 p1 p1 p1 p3");
        ProcessMill fewer = Mills.loaded(Mills.w(11, 0));
        fewer.start(0, 0);
        fewer.start(0, 1);
        fewer.run(8);
        check.same("the greatest that is ready", fewer.process(2, 10), 12);
    }

    private static void wokenOnesComeBeforeTheOneThatWokeThem() {
        ProcessMill mill = Mills.loaded(Mills.w(34, 9), Mills.w(27, 10));
        Mills.load(mill, 20, Mills.w(2, 1, 9), Mills.w(23, 1, 0), Mills.w(11, 22));
        mill.word(30, 11, 30, 0, 0);
        mill.start(0, 1);
        mill.run(1);
        mill.start(20, 1);
        mill.start(30, 1);
        mill.run(1);
        check.same("pid 1 is woken", mill.process(1, 0), Mills.READY);
        mill.run(1);
        check.same("pid 3 was ready before it", mill.process(3, 10), 12);
        mill.run(1);
        check.same("then comes pid 1", mill.process(1, 0), Mills.DEAD);
        mill.run(1);
        check.same("then pid 2, which woke it", mill.process(2, 10), 24);
    }

    private static void newOnesComeBeforeTheirMaker() {
        ProcessMill mill = Mills.loaded(Mills.w(21, 1, 20), Mills.w(21, 1, 20), Mills.w(20, 0), Mills.w(36, 0),
                Mills.w(11, 2));
        Mills.load(mill, 20, Mills.w(20, 0), Mills.w(36, 0), Mills.w(0));
        mill.start(0, 1);
        mill.run(4);
        check.same("the order", Mills.printed(mill), "p1 p1 p1 p2 p3 p1 p1 p1 p1");
    }

    private static void aSliceEndsWithWaitingOrDeath() {
        ProcessMill mill = Mills.loaded(Mills.w(3), Mills.w(27, 5));
        mill.start(0, 1);
        check.same("one slice, then nothing is ready", mill.run(9), 1);
        check.same("words until it waited", mill.process(1, 10), 2);
        mill.start(100, 1);
        check.same("one slice, then it is dead", mill.run(9), 1);
        check.same("words until it died", mill.process(2, 10), 1);
    }
}
