/** Promise 2. */
final class WordTest {
    private static final Check check = new Check();

    public static void main(String[] args) {
        wrongWordsAreRefused();
        edgesAreTaken();
        laterWordStands();
        partsAreTakenModulo();
        everyWordIsAWord();
        everyOperationIsTaken();
        theFirstAndTheLastOperation();
        check.end();
    }

    private static void wrongWordsAreRefused() {
        ProcessMill mill = new ProcessMill();
        mill.word(0, 1, 0, 5, 0);
        int[] places = {-1, 300, Integer.MIN_VALUE, Integer.MAX_VALUE};
        for (int at : places) {
            check.illegalArgument("word(" + at + ", 0, ..)", () -> mill.word(at, 0, 0, 0, 0));
        }
        int[] operations = {-1, 37, Integer.MIN_VALUE, Integer.MAX_VALUE};
        for (int operation : operations) {
            check.illegalArgument("word(0, " + operation + ", ..)", () -> mill.word(0, operation, 0, 0, 0));
        }
        check.illegalArgument("word(300, 37, ..)", () -> mill.word(300, 37, 0, 0, 0));
        mill.start(0, 1);
        mill.run(1);
        check.same("X0 by the word that stood before", Mills.register(mill, 1, 0), "5");
    }

    private static void edgesAreTaken() {
        ProcessMill mill = new ProcessMill();
        mill.word(299, 36, 7, 0, 0);
        mill.start(299, 1);
        mill.run(1);
        check.same("printed at word 299", Mills.printed(mill), "0");
        check.same("the word behind 299 and the one that ended it", mill.process(1, 1), 1);
        check.same("words done", mill.process(1, 10), 2);
    }

    private static void laterWordStands() {
        ProcessMill mill = Mills.loaded(Mills.w(27, 1), Mills.w(36, 0));
        mill.start(0, 1);
        mill.run(1);
        mill.word(1, 2, 0, 9, 0);
        mill.word(2, 36, 0, 0, 0);
        mill.send(1, 1);
        mill.run(1);
        check.same("printed by the words as they are now", Mills.printed(mill), "a9");
    }

    private static void partsAreTakenModulo() {
        ProcessMill mill = Mills.loaded(
                Mills.w(1, -1, 5), Mills.w(1, 14, Integer.MIN_VALUE), Mills.w(2, Integer.MIN_VALUE, -1),
                Mills.w(2, 1, Integer.MAX_VALUE), Mills.w(11, -1));
        Mills.load(mill, 299, Mills.w(11, 310));
        Mills.load(mill, 10, Mills.w(34, -93), Mills.w(35, 10, 107), Mills.w(27, -300));
        mill.start(0, 1);
        mill.run(1);
        check.same("X-1 is X7", Mills.register(mill, 1, 7), "5");
        check.same("X14 is X6", Mills.register(mill, 1, 6), "" + Integer.MIN_VALUE);
        check.same("atom -1 is 99", Mills.register(mill, 1, 0), "a99");
        check.same("atom 2147483647 is 47", Mills.register(mill, 1, 1), "a47");
        check.same("word -1 is 299, word 310 is 10", mill.process(1, 1), 13);
        check.same("name -93 is 7", mill.process(1, 3), 7);
        check.same("name 107 is 7, X10 is X2", Mills.register(mill, 1, 2), "p1");
        mill.word(0, 0, 0, 0, 0);
        mill.send(1, 1);
        mill.run(1);
        check.same("word -300 is 0", mill.process(1, 1), 1);
    }

    /** Each word gives X0 its own number: in turns of one slice, which ends at a word that waits, each is seen. */
    private static void everyWordIsAWord() {
        for (int at = 0; at < 300; at++) {
            ProcessMill mill = new ProcessMill();
            for (int k = 0; k < 300; k++) {
                mill.word(k, 1, 0, k, 0);
            }
            mill.word((at + 1) % 300, 27, 0, 0, 0);
            mill.start(at, 1);
            mill.run(1);
            check.same("X0 by word " + at, Mills.register(mill, 1, 0), "" + at);
        }
    }

    private static void everyOperationIsTaken() {
        for (int operation = 0; operation <= 36; operation++) {
            ProcessMill mill = new ProcessMill();
            mill.word(0, operation, Integer.MIN_VALUE, Integer.MAX_VALUE, -1);
            mill.word(299, operation, Integer.MAX_VALUE, Integer.MIN_VALUE, -1);
            mill.start(0, 1);
            mill.start(299, 1);
            check.same("a slice with operation " + operation, mill.run(2) > 0, true);
            check.same("words done with operation " + operation, mill.total(4) > 1, true);
        }
    }

    private static void theFirstAndTheLastOperation() {
        ProcessMill mill = Mills.loaded(Mills.w(36, 0), Mills.w(36, 0), Mills.w(36, 0));
        mill.word(1, 0, 0, 0, 0);
        mill.start(0, 1);
        mill.run(1);
        check.same("operation 36 prints", mill.total(6), 2);
        check.same("operation 0 ends it", mill.process(1, 10), 2);
    }
}
