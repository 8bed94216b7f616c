/** Words 0, 11 and 15 .. 19: going on, coming back, catching and failing. */
final class PathWordsTest {
    private static final Check check = new Check();

    public static void main(String[] args) {
        endingAndGoingOn();
        comingBack();
        sixteenWordsToComeBackTo();
        catching();
        aCatchForgetsLaterWordsToComeBackTo();
        aCatchMakesNoWordsToComeBackTo();
        eightCatches();
        catchesAreTakenOff();
        failingWithAnyTerm();
        theSeventeenthIsCaught();
        aWordToComeBackToIsFreeAgain();
        sixteenTimesBack();
        nowhereToComeBackToIsNotCaught();
        theNinthCatch();
        aCatchIsFreeAgain();
        theLongestTermIsCaught();
        failingWithX0();
        check.end();
    }

    private static ProcessMill ran(int slices, int[]... words) {
        ProcessMill mill = Mills.loaded(words);
        mill.start(0, 1);
        mill.run(slices);
        return mill;
    }

    private static void endingAndGoingOn() {
        ProcessMill mill = ran(1, Mills.w(11, 5));
        check.same("it went on to 5 and ended there", mill.process(1, 1), 6);
        check.same("the reason", Mills.reason(mill, 1), "a0");
        ProcessMill catches = ran(1, Mills.w(17, 9), Mills.w(0));
        check.same("an end is not caught", catches.process(1, 0), Mills.DEAD);
        check.same("the reason", Mills.reason(catches, 1), "a0");
    }

    private static void comingBack() {
        ProcessMill mill = ran(1, Mills.w(15, 10), Mills.w(36, 1), Mills.w(16));
        Mills.load(mill, 10, Mills.w(1, 1, 3), Mills.w(15, 20), Mills.w(36, 1), Mills.w(16));
        Mills.load(mill, 20, Mills.w(1, 1, 4), Mills.w(36, 1), Mills.w(1, 1, 5), Mills.w(16));
        mill.start(0, 1);
        mill.run(2);
        check.same("printed", Mills.printed(mill), "4 5 5");
        check.same("with nowhere to come back to it ends", Mills.reason(mill, 2), "a0");
        check.same("by word 2", mill.process(2, 1), 3);
        ProcessMill last = new ProcessMill();
        last.word(299, 15, 10, 0, 0);
        last.word(10, 16, 0, 0, 0);
        last.start(299, 1);
        last.run(1);
        check.same("behind word 299 is word 0", last.process(1, 1), 1);
    }

    private static void sixteenWordsToComeBackTo() {
        ProcessMill mill = new ProcessMill();
        for (int k = 0; k < 16; k++) {
            mill.word(k, 15, k + 1, 0, 0);
        }
        mill.word(16, 27, 17, 0, 0);
        mill.word(17, 15, 100, 0, 0);
        mill.start(0, 1);
        mill.run(2);
        check.same("sixteen", mill.process(1, 8), 16);
        check.same("it waits", mill.process(1, 0), Mills.WAITS);
        mill.send(1, 1);
        mill.run(1);
        check.same("a seventeenth", Mills.reason(mill, 1), "a5");
        check.same("it died by word 17", mill.process(1, 1), 18);
        check.same("words to come back to of a dead one", mill.process(1, 8), 0);
    }

    private static void catching() {
        ProcessMill mill = ran(1, Mills.w(17, 10), Mills.w(17, 20), Mills.w(2, 3, 44), Mills.w(19, 3));
        check.same("the latest is off", mill.process(1, 9), 0);
        ProcessMill two = Mills.loaded(Mills.w(17, 10), Mills.w(17, 20), Mills.w(2, 3, 44), Mills.w(19, 3));
        two.word(20, 27, 21, 0, 0);
        two.word(21, 8, 1, 1, 0);
        two.word(10, 27, 10, 0, 0);
        two.start(0, 1);
        two.run(1);
        check.same("on to the latest", two.process(1, 1), 21);
        check.same("catches left", two.process(1, 9), 1);
        check.same("X0 is the term", Mills.register(two, 1, 0), "a44");
        two.send(1, 1);
        two.run(1);
        check.same("a bad word is caught by the one before", Mills.register(two, 1, 0), "a4");
        check.same("it is there, with a message", two.process(1, 1), 10);
        check.same("no catches left", two.process(1, 9), 0);
    }

    private static void aCatchForgetsLaterWordsToComeBackTo() {
        ProcessMill mill = Mills.loaded(Mills.w(15, 2), Mills.w(0), Mills.w(17, 20), Mills.w(15, 4), Mills.w(15, 5),
                Mills.w(19, 0));
        mill.word(20, 27, 21, 0, 0);
        mill.word(21, 16, 0, 0, 0);
        mill.start(0, 1);
        mill.run(1);
        check.same("as many as when it began to catch", mill.process(1, 8), 1);
        mill.send(1, 1);
        mill.run(1);
        check.same("it came back to word 1 and ended", mill.process(1, 1), 2);
    }

    private static void aCatchMakesNoWordsToComeBackTo() {
        ProcessMill mill = Mills.loaded(Mills.w(15, 2), Mills.w(19, 0), Mills.w(17, 20), Mills.w(16));
        mill.word(20, 27, 21, 0, 0);
        mill.start(0, 1);
        mill.run(1);
        check.same("it came back before it failed", mill.process(1, 1), 21);
        check.same("there are none", mill.process(1, 8), 0);
    }

    private static void eightCatches() {
        ProcessMill mill = new ProcessMill();
        for (int k = 0; k < 9; k++) {
            mill.word(k, 17, 50 + k, 0, 0);
        }
        mill.word(57, 27, 0, 0, 0);
        mill.start(0, 1);
        mill.run(1);
        check.same("a ninth fails to the eighth", mill.process(1, 1), 58);
        check.same("X0 is limit", Mills.register(mill, 1, 0), "a5");
        check.same("catches left", mill.process(1, 9), 7);
    }

    private static void catchesAreTakenOff() {
        ProcessMill mill = ran(1, Mills.w(18), Mills.w(17, 50), Mills.w(17, 60), Mills.w(18), Mills.w(2, 1, 9),
                Mills.w(19, 1));
        check.same("it went on to 50 and ended there", mill.process(1, 1), 51);
        ProcessMill none = ran(1, Mills.w(17, 50), Mills.w(18), Mills.w(18), Mills.w(2, 1, 9), Mills.w(19, 1));
        check.same("nothing catches", Mills.reason(none, 1), "a9");
    }

    private static void failingWithAnyTerm() {
        ProcessMill mill = ran(1, Mills.w(20, 1), Mills.w(1, 2, 6), Mills.w(7, 3, 1, 2), Mills.w(19, 3));
        check.same("the reason", Mills.reason(mill, 1), "(p1 6)");
        check.same("X0 of a dead one stays", Mills.register(mill, 1, 0), "0");
        check.same("it died by word 3", mill.process(1, 1), 4);
    }

    /** Sixteen words to come back to, then the words behind, which begin at 16. */
    private static ProcessMill sixteen(int[]... words) {
        ProcessMill mill = new ProcessMill();
        for (int k = 0; k < 16; k++) {
            mill.word(k, 15, k + 1, 0, 0);
        }
        Mills.load(mill, 16, words);
        mill.word(100, 11, 100, 0, 0);
        mill.start(0, 1);
        mill.run(3);
        return mill;
    }

    private static void theSeventeenthIsCaught() {
        ProcessMill mill = sixteen(Mills.w(17, 100), Mills.w(15, 50));
        check.same("on to the catch", mill.process(1, 1), 100);
        check.same("X0 is limit", Mills.register(mill, 1, 0), "a5");
        check.same("all sixteen are there", mill.process(1, 8), 16);
        check.same("the catch is off", mill.process(1, 9), 0);
        ProcessMill loop = Mills.loaded(Mills.w(15, 1), Mills.w(17, 100), Mills.w(15, 2));
        loop.word(100, 11, 100, 0, 0);
        loop.start(0, 1);
        loop.run(4);
        check.same("as many as when it began to catch", loop.process(1, 8), 1);
    }

    private static void aWordToComeBackToIsFreeAgain() {
        ProcessMill mill = sixteen(Mills.w(15, 50));
        check.same("the seventeenth", Mills.reason(mill, 1), "a5");
        check.same("words done, the seventeenth too", mill.process(1, 10), 17);
        ProcessMill free = new ProcessMill();
        for (int k = 0; k < 15; k++) {
            free.word(k, 15, k + 1, 0, 0);
        }
        Mills.load(free, 15, Mills.w(15, 50), Mills.w(15, 60), Mills.w(15, 60));
        Mills.load(free, 50, Mills.w(16));
        Mills.load(free, 60, Mills.w(11, 60));
        free.start(0, 1);
        free.run(3);
        check.same("behind one that came back, a sixteenth", free.process(1, 8), 16);
        check.same("it goes on", free.process(1, 1), 60);
    }

    private static void sixteenTimesBack() {
        ProcessMill mill = new ProcessMill();
        for (int k = 0; k < 16; k++) {
            Mills.load(mill, 2 * k, Mills.w(15, 2 * k + 2), Mills.w(16));
        }
        mill.word(32, 16, 0, 0, 0);
        mill.start(0, 1);
        mill.run(4);
        check.same("with nowhere to come back to it ends", Mills.reason(mill, 1), "a0");
        check.same("sixteen words on, sixteen back, and the last", mill.process(1, 10), 33);
        check.same("by word 1", mill.process(1, 1), 2);
    }

    private static void nowhereToComeBackToIsNotCaught() {
        ProcessMill mill = ran(1, Mills.w(17, 100), Mills.w(16));
        check.same("it ends", Mills.reason(mill, 1), "a0");
        check.same("by word 1", mill.process(1, 1), 2);
        check.same("catches of a dead one", mill.process(1, 9), 0);
    }

    private static void theNinthCatch() {
        for (int catches = 7; catches <= 9; catches++) {
            ProcessMill mill = new ProcessMill();
            for (int k = 0; k < catches; k++) {
                mill.word(k, 17, 50 + k, 0, 0);
            }
            mill.word(catches, 27, 100, 0, 0);
            mill.word(57, 27, 100, 0, 0);
            mill.start(0, 1);
            mill.run(1);
            check.same("catches behind " + catches, mill.process(1, 9), catches == 9 ? 7 : catches);
            check.same("the word behind " + catches, mill.process(1, 1), catches == 9 ? 58 : catches + 1);
            check.same("X0 behind " + catches, Mills.register(mill, 1, 0), catches == 9 ? "a5" : "0");
        }
    }

    private static void aCatchIsFreeAgain() {
        ProcessMill mill = new ProcessMill();
        for (int k = 0; k < 8; k++) {
            mill.word(k, 17, 50 + k, 0, 0);
        }
        Mills.load(mill, 8, Mills.w(18), Mills.w(17, 60), Mills.w(27, 100));
        mill.start(0, 1);
        mill.run(1);
        check.same("eight again", mill.process(1, 9), 8);
        check.same("it went on", mill.process(1, 1), 11);
        ProcessMill none = ran(1, Mills.w(18), Mills.w(18), Mills.w(17, 50), Mills.w(27, 100));
        check.same("one, behind two that were off though there was none", none.process(1, 9), 1);
    }

    private static void theLongestTermIsCaught() {
        ProcessMill mill = Mills.loaded(Mills.w(17, 100), Mills.w(2, 1, 8), Mills.w(7, 1, 1, 1), Mills.w(7, 1, 1, 1),
                Mills.w(7, 1, 1, 1), Mills.w(7, 1, 1, 1), Mills.w(7, 1, 1, 1), Mills.w(19, 1));
        mill.word(100, 11, 100, 0, 0);
        mill.start(0, 1);
        mill.run(1);
        check.same("X0 is the term", Mills.register(mill, 1, 0), Mills.register(mill, 1, 1));
        check.same("its last number", mill.register(1, 0, 94), 8);
    }

    private static void failingWithX0() {
        ProcessMill mill = Mills.loaded(Mills.w(17, 100), Mills.w(7, 0, 1, 1), Mills.w(19, 0));
        mill.word(100, 11, 100, 0, 0);
        mill.start(0, 1);
        mill.run(1);
        check.same("X0 stays", Mills.register(mill, 1, 0), "(0 0)");
    }
}
