/** Words 1 .. 10 and the order of terms (12, 13, 14). */
final class TermWordsTest {
    private static final Check check = new Check();

    public static void main(String[] args) {
        numbersAreReckonedInThirtyTwoBits();
        whatIsNoNumberIsBad();
        copiesAreCopies();
        pairsAreJoined();
        pairsAreTakenApart();
        whatIsNoPairIsBad();
        moreThanThirtyTwoEndsAreTooMany();
        kinds();
        theOrderOfTerms();
        sumsAtTheEdges();
        theFirstAndTheLastAtom();
        endsOfAllSplits();
        aPairThatFailsChangesNothing();
        pidsAtTheEdges();
        theLastOfManyEnds();
        check.end();
    }

    /** What X0 is after the words, then one that waits. */
    private static String x0(int[]... words) {
        ProcessMill mill = Mills.loaded(words);
        mill.word(words.length, 27, 0, 0, 0);
        mill.start(0, 1);
        mill.run(9);
        return mill.process(1, 0) == Mills.DEAD ? "died of " + Mills.reason(mill, 1) : Mills.register(mill, 1, 0);
    }

    private static void numbersAreReckonedInThirtyTwoBits() {
        int[] seven = Mills.w(1, 1, 7);
        int[] minusThree = Mills.w(1, 2, -3);
        int[] most = Mills.w(1, 1, Integer.MAX_VALUE);
        int[] least = Mills.w(1, 2, Integer.MIN_VALUE);
        check.same("7 + -3", x0(seven, minusThree, Mills.w(4, 0, 1, 2)), "4");
        check.same("7 - -3", x0(seven, minusThree, Mills.w(5, 0, 1, 2)), "10");
        check.same("7 * -3", x0(seven, minusThree, Mills.w(6, 0, 1, 2)), "-21");
        check.same("most + most", x0(most, Mills.w(4, 0, 1, 1)), "-2");
        check.same("least - most", x0(most, least, Mills.w(5, 0, 2, 1)), "1");
        check.same("most * most", x0(most, Mills.w(6, 0, 1, 1)), "1");
        check.same("into one of both", x0(seven, Mills.w(3, 0, 1), Mills.w(6, 0, 0, 1)), "49");
    }

    private static void whatIsNoNumberIsBad() {
        int[][] others = {Mills.w(2, 1, 7), Mills.w(20, 1), Mills.w(7, 1, 2, 2)};
        for (int[] other : others) {
            for (int operation = 4; operation <= 6; operation++) {
                check.same("first is none", x0(other, Mills.w(operation, 0, 1, 2)), "died of a4");
                check.same("second is none", x0(other, Mills.w(operation, 0, 2, 1)), "died of a4");
            }
        }
    }

    private static void copiesAreCopies() {
        check.same("a copy stays", x0(Mills.w(1, 1, 5), Mills.w(3, 0, 1), Mills.w(1, 1, 6)), "5");
        check.same("a copy of itself", x0(Mills.w(7, 0, 1, 1), Mills.w(3, 0, 0)), "(0 0)");
        check.same("a part stays", x0(Mills.w(1, 1, 5), Mills.w(7, 0, 1, 1), Mills.w(1, 1, 6)), "(5 5)");
    }

    private static void pairsAreJoined() {
        int[] one = Mills.w(1, 0, 1);
        int[] two = Mills.w(1, 1, 2);
        int[] nested = Mills.w(7, 2, 0, 1);
        check.same("X0 is X0, X1", x0(one, two, Mills.w(7, 0, 0, 1)), "(1 2)");
        check.same("X0 is X1, X0", x0(one, two, Mills.w(7, 0, 1, 0)), "(2 1)");
        check.same("X0 is X0, X0", x0(one, two, Mills.w(7, 0, 0, 0)), "(1 1)");
        check.same("X0 is X2, X0", x0(one, two, nested, Mills.w(7, 0, 2, 0)), "((1 2) 1)");
        check.same("X0 is X0, X2", x0(one, two, nested, Mills.w(7, 0, 0, 2)), "(1 (1 2))");
        check.same("X2 twice in itself", x0(one, two, nested, Mills.w(7, 2, 2, 2), Mills.w(7, 0, 2, 1)),
                "(((1 2) (1 2)) 2)");
        check.same("other than both", x0(one, two, nested, Mills.w(7, 0, 2, 2)), "((1 2) (1 2))");
    }

    private static void pairsAreTakenApart() {
        int[][] build = {Mills.w(1, 1, -1), Mills.w(2, 2, 9), Mills.w(7, 3, 1, 2), Mills.w(7, 4, 3, 1)};
        check.same("first", x0(build[0], build[1], build[2], build[3], Mills.w(8, 0, 4)), "(-1 a9)");
        check.same("second", x0(build[0], build[1], build[2], build[3], Mills.w(9, 0, 4)), "-1");
        check.same("second of first", x0(build[0], build[1], build[2], build[3], Mills.w(8, 4, 4), Mills.w(9, 0, 4)),
                "a9");
        check.same("first into itself", x0(build[0], build[1], Mills.w(7, 0, 1, 2), Mills.w(7, 0, 0, 2),
                Mills.w(8, 0, 0)), "(-1 a9)");
        check.same("second into itself", x0(build[0], build[1], Mills.w(7, 0, 1, 2), Mills.w(7, 0, 2, 0),
                Mills.w(9, 0, 0)), "(-1 a9)");
    }

    private static void whatIsNoPairIsBad() {
        int[][] others = {Mills.w(1, 1, -1), Mills.w(2, 1, 7), Mills.w(20, 1)};
        for (int[] other : others) {
            check.same("first", x0(other, Mills.w(8, 0, 1)), "died of a4");
            check.same("second", x0(other, Mills.w(9, 0, 1)), "died of a4");
        }
    }

    private static void moreThanThirtyTwoEndsAreTooMany() {
        int[] twice = Mills.w(7, 1, 1, 1);
        check.same("32 ends are joined of 16 and 16, and taken apart",
                x0(twice, twice, twice, twice, twice, Mills.w(8, 1, 1), Mills.w(8, 1, 1), Mills.w(8, 1, 1),
                        Mills.w(8, 0, 1)), "(0 0)");
        check.same("32 and 1", x0(twice, twice, twice, twice, twice, Mills.w(7, 0, 1, 0)), "died of a5");
        check.same("1 and 32", x0(twice, twice, twice, twice, twice, Mills.w(7, 0, 0, 1)), "died of a5");
        check.same("31 and 1", x0(twice, twice, twice, twice, Mills.w(8, 2, 1), Mills.w(8, 3, 2), Mills.w(8, 4, 3),
                Mills.w(7, 1, 1, 2), Mills.w(7, 1, 1, 3), Mills.w(7, 1, 1, 4), Mills.w(7, 1, 1, 5),
                Mills.w(7, 1, 1, 5), Mills.w(9, 0, 1)), "0");
        check.same("32 and 1 one by one", x0(twice, twice, twice, twice, Mills.w(8, 2, 1), Mills.w(8, 3, 2),
                Mills.w(8, 4, 3), Mills.w(7, 1, 1, 2), Mills.w(7, 1, 1, 3), Mills.w(7, 1, 1, 4), Mills.w(7, 1, 1, 5),
                Mills.w(7, 1, 1, 5), Mills.w(7, 1, 1, 5)), "died of a5");
        check.same("what was there stays", x0(twice, twice, twice, twice, twice, Mills.w(17, 7), Mills.w(7, 2, 1, 1),
                Mills.w(3, 0, 2)), "0");
    }

    private static void kinds() {
        check.same("number", x0(Mills.w(1, 1, 9), Mills.w(10, 0, 1)), "0");
        check.same("atom", x0(Mills.w(2, 1, 9), Mills.w(10, 0, 1)), "1");
        check.same("pid", x0(Mills.w(20, 1), Mills.w(10, 0, 1)), "2");
        check.same("pair", x0(Mills.w(7, 1, 1, 1), Mills.w(10, 0, 1)), "3");
        check.same("of itself", x0(Mills.w(7, 0, 1, 1), Mills.w(10, 0, 0)), "3");
    }

    /** Each row of words leaves a term in X0; X3 and X4 are 0 before it. The terms are in rising order. */
    private static void theOrderOfTerms() {
        int[][][] rising = {
            {Mills.w(1, 0, Integer.MIN_VALUE)}, {Mills.w(1, 0, -1)}, {Mills.w(1, 0, 0)}, {Mills.w(1, 0, 1)},
            {Mills.w(1, 0, Integer.MAX_VALUE)}, {Mills.w(2, 0, 0)}, {Mills.w(2, 0, 50)}, {Mills.w(2, 0, 99)},
            {Mills.w(20, 0)}, {Mills.w(35, 0, 8)},
            {Mills.w(1, 3, -1), Mills.w(7, 0, 3, 3)},
            {Mills.w(1, 3, -1), Mills.w(7, 0, 3, 4)},
            {Mills.w(1, 3, -1), Mills.w(2, 4, 0), Mills.w(7, 0, 3, 4)},
            {Mills.w(1, 3, -1), Mills.w(7, 4, 3, 3), Mills.w(7, 0, 3, 4)},
            {Mills.w(7, 0, 3, 3)},
            {Mills.w(2, 3, 1), Mills.w(7, 0, 3, 4)},
            {Mills.w(7, 3, 3, 3), Mills.w(7, 0, 3, 4)},
            {Mills.w(7, 3, 3, 3), Mills.w(7, 4, 4, 4), Mills.w(7, 0, 3, 4)},
        };
        for (int one = 0; one < rising.length; one++) {
            for (int other = 0; other < rising.length; other++) {
                String both = "terms " + one + " and " + other;
                check.same(both + " equal", goes(12, rising[one], rising[other]), one == other);
                check.same(both + " below", goes(13, rising[one], rising[other]), one < other);
                check.same(both + " not above", goes(14, rising[one], rising[other]), one <= other);
            }
        }
    }

    private static boolean goes(int operation, int[][] one, int[][] other) {
        ProcessMill mill = new ProcessMill();
        mill.start(0, 1);
        mill.start(100, 0);
        Mills.load(mill, 100, Mills.w(34, 8), Mills.w(27));
        int at = put(mill, 0, one, 1);
        at = put(mill, at, other, 2);
        mill.word(at, operation, 40, 1, 2);
        mill.word(at + 1, 27, 0, 0, 0);
        mill.word(40, 27, 0, 0, 0);
        mill.run(9);
        return mill.process(1, 1) == 41;
    }

    private static int put(ProcessMill mill, int at, int[][] words, int register) {
        mill.word(at, 1, 3, 0, 0);
        mill.word(at + 1, 1, 4, 0, 0);
        Mills.load(mill, at + 2, words);
        mill.word(at + 2 + words.length, 3, register, 0, 0);
        return at + 3 + words.length;
    }

    private static String reckoned(int one, int operation, int other) {
        return x0(Mills.w(1, 1, one), Mills.w(1, 2, other), Mills.w(operation, 0, 1, 2));
    }

    private static void sumsAtTheEdges() {
        int most = Integer.MAX_VALUE;
        int least = Integer.MIN_VALUE;
        check.same("most - 1 + 1", reckoned(most - 1, 4, 1), "2147483647");
        check.same("most + 1", reckoned(most, 4, 1), "-2147483648");
        check.same("least + -1", reckoned(least, 4, -1), "2147483647");
        check.same("least + least", reckoned(least, 4, least), "0");
        check.same("least + 1 - 1", reckoned(least + 1, 5, 1), "-2147483648");
        check.same("least - 1", reckoned(least, 5, 1), "2147483647");
        check.same("0 - least", reckoned(0, 5, least), "-2147483648");
        check.same("most - -1", reckoned(most, 5, -1), "-2147483648");
        check.same("46340 * 46340", reckoned(46340, 6, 46340), "2147395600");
        check.same("46341 * 46341", reckoned(46341, 6, 46341), "-2147479015");
        check.same("65536 * 65536", reckoned(65536, 6, 65536), "0");
        check.same("65536 * 32768", reckoned(65536, 6, 32768), "-2147483648");
        check.same("least * -1", reckoned(least, 6, -1), "-2147483648");
        check.same("least * least", reckoned(least, 6, least), "0");
    }

    private static void theFirstAndTheLastAtom() {
        int[][] numbersAndAtoms = {{0, 0}, {1, 1}, {98, 98}, {99, 99}, {100, 0}, {101, 1}, {199, 99}, {200, 0},
            {-1, 99}, {-99, 1}, {-100, 0}, {-101, 99}};
        for (int[] row : numbersAndAtoms) {
            check.same("atom " + row[0], x0(Mills.w(2, 0, row[0])), "a" + row[1]);
        }
    }

    /** X1 of so many ends and X2 of so many, then their pair; a catch at 200 tells that it failed. */
    private static ProcessMill joined(int firsts, int seconds) {
        ProcessMill mill = Mills.loaded(Mills.w(17, 200), Mills.w(1, 5, 3));
        int at = 2;
        for (int k = 1; k < firsts; k++) {
            mill.word(at++, 7, 1, 1, 5);
        }
        for (int k = 1; k < seconds; k++) {
            mill.word(at++, 7, 2, 5, 2);
        }
        mill.word(at, 7, 3, 1, 2);
        mill.word(at + 1, 11, at + 1, 0, 0);
        mill.word(200, 11, 200, 0, 0);
        mill.start(0, 1);
        mill.run(10);
        return mill;
    }

    private static void endsOfAllSplits() {
        for (int firsts = 1; firsts <= 32; firsts++) {
            String both = firsts + " ends and ";
            if (firsts < 32) {
                ProcessMill fits = joined(firsts, 32 - firsts);
                check.same(both + (32 - firsts), fits.process(1, 1) < 200, true);
                check.same(both + (32 - firsts) + ": numbers", fits.register(1, 3, 94) == ProcessMill.NONE, false);
                check.same(both + (32 - firsts) + ": behind", fits.register(1, 3, 95), ProcessMill.NONE);
            }
            ProcessMill fails = joined(firsts, 33 - firsts);
            check.same(both + (33 - firsts), fails.process(1, 1), 200);
            check.same(both + (33 - firsts) + " fail", Mills.register(fails, 1, 0), "a5");
        }
        check.same("32 ends and 32", Mills.register(joined(32, 32), 1, 0), "a5");
        check.same("1 end and 1", Mills.register(joined(1, 1), 1, 3), "(0 0)");
    }

    private static void aPairThatFailsChangesNothing() {
        ProcessMill before = joined(16, 16);
        ProcessMill mill = joined(16, 17);
        check.same("Xa stays", Mills.register(mill, 1, 3), "0");
        check.same("Xb stays", Mills.register(mill, 1, 1), Mills.register(before, 1, 1));
        check.same("Xc stays", Mills.register(mill, 1, 2).length(), Mills.register(before, 1, 2).length() + 4);
    }

    /** Sixty processes: pid 1 finds pids 59 and 60 by their names, and compares. */
    private static void pidsAtTheEdges() {
        int[][] joining = {Mills.w(35, 1, 59), Mills.w(35, 2, 60), Mills.w(20, 3), Mills.w(1, 4, Integer.MIN_VALUE),
            Mills.w(7, 4, 4, 4), Mills.w(2, 5, 99), Mills.w(1, 6, Integer.MAX_VALUE), Mills.w(2, 7, 0)};
        int[] rising = {6, 7, 5, 3, 1, 2, 4};
        for (int one = 0; one < rising.length; one++) {
            for (int other = 0; other < rising.length; other++) {
                ProcessMill mill = sixty();
                Mills.load(mill, 0, joining);
                Mills.load(mill, 8, Mills.w(13, 20, rising[one], rising[other]), Mills.w(11, 9));
                mill.word(20, 11, 20, 0, 0);
                mill.send(1, 0);
                mill.run(1);
                check.same("X" + rising[one] + " below X" + rising[other], mill.process(1, 1) == 20, one < other);
            }
        }
    }

    private static ProcessMill sixty() {
        ProcessMill mill = new ProcessMill();
        mill.word(50, 27, 0, 0, 0);
        Mills.load(mill, 60, Mills.w(34, 59), Mills.w(27));
        Mills.load(mill, 70, Mills.w(34, 60), Mills.w(27));
        for (int pid = 1; pid <= 60; pid++) {
            mill.start(pid == 59 ? 60 : pid == 60 ? 70 : 50, 1);
        }
        mill.run(60);
        return mill;
    }

    /** Two terms of 32 ends that are the same but for their last ends. */
    private static void theLastOfManyEnds() {
        int[][] lastsAndDue = {{5, 5, 1, 0, 1}, {5, 6, 0, 1, 1}, {6, 5, 0, 0, 0}};
        for (int[] row : lastsAndDue) {
            for (int operation = 12; operation <= 14; operation++) {
                ProcessMill mill = Mills.loaded(Mills.w(1, 1, row[0]), Mills.w(1, 2, row[1]));
                for (int k = 0; k < 31; k++) {
                    Mills.load(mill, 2 + 2 * k, Mills.w(7, 1, 3, 1), Mills.w(7, 2, 3, 2));
                }
                mill.word(64, operation, 100, 1, 2);
                mill.word(65, 11, 65, 0, 0);
                mill.word(100, 11, 100, 0, 0);
                mill.start(0, 1);
                mill.run(6);
                boolean due = row[operation - 10] == 1;
                check.same("operation " + operation + " of " + row[0] + " and " + row[1],
                        mill.process(1, 1) == 100, due);
            }
        }
    }
}
