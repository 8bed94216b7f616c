/** Words 1 .. 10 and the order of terms (12, 13, 14). */
final class TermWordsTest {
    private static final Check check = new Check();

    public static void main(String[] args) {
        numbersAreReckonedInThirtyTwoBits();
        whatIsNoNumberIsBad();
        copiesAreCopies();
        pairsAreJoined();
        pairsAreTakenApart();
        whatIsNoPairIsBad();
        moreThanThirtyTwoEndsAreTooMany();
        kinds();
        theOrderOfTerms();
        check.end();
    }

    /** What X0 is after the words, then one that waits. */
    private static String x0(int[]... words) {
        ProcessMill mill = Mills.loaded(words);
        mill.word(words.length, 27, 0, 0, 0);
        mill.start(0, 1);
        mill.run(9);
        return mill.process(1, 0) == Mills.DEAD ? "died of " + Mills.reason(mill, 1) : Mills.register(mill, 1, 0);
    }

    private static void numbersAreReckonedInThirtyTwoBits() {
        int[] seven = Mills.w(1, 1, 7);
        int[] minusThree = Mills.w(1, 2, -3);
        int[] most = Mills.w(1, 1, Integer.MAX_VALUE);
        int[] least = Mills.w(1, 2, Integer.MIN_VALUE);
        check.same("7 + -3", x0(seven, minusThree, Mills.w(4, 0, 1, 2)), "4");
        check.same("7 - -3", x0(seven, minusThree, Mills.w(5, 0, 1, 2)), "10");
        check.same("7 * -3", x0(seven, minusThree, Mills.w(6, 0, 1, 2)), "-21");
        check.same("most + most", x0(most, Mills.w(4, 0, 1, 1)), "-2");
        check.same("least - most", x0(most, least, Mills.w(5, 0, 2, 1)), "1");
        check.same("most * most", x0(most, Mills.w(6, 0, 1, 1)), "1");
        check.same("into one of both", x0(seven, Mills.w(3, 0, 1), Mills.w(6, 0, 0, 1)), "49");
    }

    private static void whatIsNoNumberIsBad() {
        int[][] others = {Mills.w(2, 1, 7), Mills.w(20, 1), Mills.w(7, 1, 2, 2)};
        for (int[] other : others) {
            for (int operation = 4; operation <= 6; operation++) {
                check.same("first is none", x0(other, Mills.w(operation, 0, 1, 2)), "died of a4");
                check.same("second is none", x0(other, Mills.w(operation, 0, 2, 1)), "died of a4");
            }
        }
    }

    private static void copiesAreCopies() {
        check.same("a copy stays", x0(Mills.w(1, 1, 5), Mills.w(3, 0, 1), Mills.w(1, 1, 6)), "5");
        check.same("a copy of itself", x0(Mills.w(7, 0, 1, 1), Mills.w(3, 0, 0)), "(0 0)");
        check.same("a part stays", x0(Mills.w(1, 1, 5), Mills.w(7, 0, 1, 1), Mills.w(1, 1, 6)), "(5 5)");
    }

    private static void pairsAreJoined() {
        int[] one = Mills.w(1, 0, 1);
        int[] two = Mills.w(1, 1, 2);
        int[] nested = Mills.w(7, 2, 0, 1);
        check.same("X0 is X0, X1", x0(one, two, Mills.w(7, 0, 0, 1)), "(1 2)");
        check.same("X0 is X1, X0", x0(one, two, Mills.w(7, 0, 1, 0)), "(2 1)");
        check.same("X0 is X0, X0", x0(one, two, Mills.w(7, 0, 0, 0)), "(1 1)");
        check.same("X0 is X2, X0", x0(one, two, nested, Mills.w(7, 0, 2, 0)), "((1 2) 1)");
        check.same("X0 is X0, X2", x0(one, two, nested, Mills.w(7, 0, 0, 2)), "(1 (1 2))");
        check.same("X2 twice in itself", x0(one, two, nested, Mills.w(7, 2, 2, 2), Mills.w(7, 0, 2, 1)),
                "(((1 2) (1 2)) 2)");
        check.same("other than both", x0(one, two, nested, Mills.w(7, 0, 2, 2)), "((1 2) (1 2))");
    }

    private static void pairsAreTakenApart() {
        int[][] build = {Mills.w(1, 1, -1), Mills.w(2, 2, 9), Mills.w(7, 3, 1, 2), Mills.w(7, 4, 3, 1)};
        check.same("first", x0(build[0], build[1], build[2], build[3], Mills.w(8, 0, 4)), "(-1 a9)");
        check.same("second", x0(build[0], build[1], build[2], build[3], Mills.w(9, 0, 4)), "-1");
        check.same("second of first", x0(build[0], build[1], build[2], build[3], Mills.w(8, 4, 4), Mills.w(9, 0, 4)),
                "a9");
        check.same("first into itself", x0(build[0], build[1], Mills.w(7, 0, 1, 2), Mills.w(7, 0, 0, 2),
                Mills.w(8, 0, 0)), "(-1 a9)");
        check.same("second into itself", x0(build[0], build[1], Mills.w(7, 0, 1, 2), Mills.w(7, 0, 2, 0),
                Mills.w(9, 0, 0)), "(-1 a9)");
    }

    private static void whatIsNoPairIsBad() {
        int[][] others = {Mills.w(1, 1, -1), Mills.w(2, 1, 7), Mills.w(20, 1)};
        for (int[] other : others) {
            check.same("first", x0(other, Mills.w(8, 0, 1)), "died of a4");
            check.same("second", x0(other, Mills.w(9, 0, 1)), "died of a4");
        }
    }

    private static void moreThanThirtyTwoEndsAreTooMany() {
        int[] twice = Mills.w(7, 1, 1, 1);
        check.same("32 ends are joined of 16 and 16, and taken apart",
                x0(twice, twice, twice, twice, twice, Mills.w(8, 1, 1), Mills.w(8, 1, 1), Mills.w(8, 1, 1),
                        Mills.w(8, 0, 1)), "(0 0)");
        check.same("32 and 1", x0(twice, twice, twice, twice, twice, Mills.w(7, 0, 1, 0)), "died of a5");
        check.same("1 and 32", x0(twice, twice, twice, twice, twice, Mills.w(7, 0, 0, 1)), "died of a5");
        check.same("31 and 1", x0(twice, twice, twice, twice, Mills.w(8, 2, 1), Mills.w(8, 3, 2), Mills.w(8, 4, 3),
                Mills.w(7, 1, 1, 2), Mills.w(7, 1, 1, 3), Mills.w(7, 1, 1, 4), Mills.w(7, 1, 1, 5),
                Mills.w(7, 1, 1, 5), Mills.w(9, 0, 1)), "0");
        check.same("32 and 1 one by one", x0(twice, twice, twice, twice, Mills.w(8, 2, 1), Mills.w(8, 3, 2),
                Mills.w(8, 4, 3), Mills.w(7, 1, 1, 2), Mills.w(7, 1, 1, 3), Mills.w(7, 1, 1, 4), Mills.w(7, 1, 1, 5),
                Mills.w(7, 1, 1, 5), Mills.w(7, 1, 1, 5)), "died of a5");
        check.same("what was there stays", x0(twice, twice, twice, twice, twice, Mills.w(17, 7), Mills.w(7, 2, 1, 1),
                Mills.w(3, 0, 2)), "0");
    }

    private static void kinds() {
        check.same("number", x0(Mills.w(1, 1, 9), Mills.w(10, 0, 1)), "0");
        check.same("atom", x0(Mills.w(2, 1, 9), Mills.w(10, 0, 1)), "1");
        check.same("pid", x0(Mills.w(20, 1), Mills.w(10, 0, 1)), "2");
        check.same("pair", x0(Mills.w(7, 1, 1, 1), Mills.w(10, 0, 1)), "3");
        check.same("of itself", x0(Mills.w(7, 0, 1, 1), Mills.w(10, 0, 0)), "3");
    }

    /** Each row of words leaves a term in X0; X3 and X4 are 0 before it. The terms are in rising order. */
    private static void theOrderOfTerms() {
        int[][][] rising = {
            {Mills.w(1, 0, Integer.MIN_VALUE)}, {Mills.w(1, 0, -1)}, {Mills.w(1, 0, 0)}, {Mills.w(1, 0, 1)},
            {Mills.w(1, 0, Integer.MAX_VALUE)}, {Mills.w(2, 0, 0)}, {Mills.w(2, 0, 50)}, {Mills.w(2, 0, 99)},
            {Mills.w(20, 0)}, {Mills.w(35, 0, 8)},
            {Mills.w(1, 3, -1), Mills.w(7, 0, 3, 3)},
            {Mills.w(1, 3, -1), Mills.w(7, 0, 3, 4)},
            {Mills.w(1, 3, -1), Mills.w(2, 4, 0), Mills.w(7, 0, 3, 4)},
            {Mills.w(1, 3, -1), Mills.w(7, 4, 3, 3), Mills.w(7, 0, 3, 4)},
            {Mills.w(7, 0, 3, 3)},
            {Mills.w(2, 3, 1), Mills.w(7, 0, 3, 4)},
            {Mills.w(7, 3, 3, 3), Mills.w(7, 0, 3, 4)},
            {Mills.w(7, 3, 3, 3), Mills.w(7, 4, 4, 4), Mills.w(7, 0, 3, 4)},
        };
        for (int one = 0; one < rising.length; one++) {
            for (int other = 0; other < rising.length; other++) {
                String both = "terms " + one + " and " + other;
                check.same(both + " equal", goes(12, rising[one], rising[other]), one == other);
                check.same(both + " below", goes(13, rising[one], rising[other]), one < other);
                check.same(both + " not above", goes(14, rising[one], rising[other]), one <= other);
            }
        }
    }

    private static boolean goes(int operation, int[][] one, int[][] other) {
        ProcessMill mill = new ProcessMill();
        mill.start(0, 1);
        mill.start(100, 0);
        Mills.load(mill, 100, Mills.w(34, 8), Mills.w(27));
        int at = put(mill, 0, one, 1);
        at = put(mill, at, other, 2);
        mill.word(at, operation, 40, 1, 2);
        mill.word(at + 1, 27, 0, 0, 0);
        mill.word(40, 27, 0, 0, 0);
        mill.run(9);
        return mill.process(1, 1) == 41;
    }

    private static int put(ProcessMill mill, int at, int[][] words, int register) {
        mill.word(at, 1, 3, 0, 0);
        mill.word(at + 1, 1, 4, 0, 0);
        Mills.load(mill, at + 2, words);
        mill.word(at + 2 + words.length, 3, register, 0, 0);
        return at + 3 + words.length;
    }
}
